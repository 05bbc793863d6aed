/-! the property's own mathematics: orders -/
theorem ct_mono {E F : Nat → Nat → Bool} {n : Nat} (h : ∀ a b, a < n → b < n → F a b = true → E a b = true) : ∀ (k S : Nat), S ≤ k → S < 2 ^ n → ct E n S ≤ ct F n S
  | 0, S, hk, hS => by
    have h0 : S = 0 := by omega
    subst h0
    rw [ct_0, ct_0]
    exact Nat.le_refl _
  | k + 1, S, hk, hS => by
    by_cases h0 : S = 0
    · subst h0
      rw [ct_0, ct_0]
      exact Nat.le_refl _
    · rw [ct_s E n h0, ct_s F n h0]
      refine sm_le (fun x hx => ?_)
      by_cases q : fF E n S x = true
      · have hb := (fF_iff.mp q).1
        have q2 : fF F n S x = true := fF_iff.mpr ⟨hb, fun z hz hs => by
          have h1 := (fF_iff.mp q).2 z hz hs
          cases e : F z x with
          | false => rfl
          | true => rw [h z x hz hx e] at h1; cases h1⟩
        rw [if_pos q, if_pos q2]
        exact ct_mono h k _ (by have := rm_lt hb; omega) (rm_lt2 hS hb)
      · rw [if_neg q]
        exact Nat.zero_le _
theorem fit_mono {E F : Nat → Nat → Bool} {n : Nat} (h : ∀ a b, a < n → b < n → F a b = true → E a b = true) : fitN E n ≤ fitN F n := ct_mono h _ _ (Nat.le_refl _) (full_lt n)
theorem fit_bd {E : Nat → Nat → Bool} {n : Nat} (hn : n ≤ 10) : fitN E n ≤ 3628800 := ct_bd E hn (full_lt n)
theorem con_fit {E : Nat → Nat → Bool} {n : Nat} (h : conP E n ≠ 0) : fitN E n = 0 := by
  have h0 : 0 < sm (fun b => sm (fun a => if (E a b && E b a) = true then 1 else 0) b) n := Nat.pos_of_ne_zero h
  obtain ⟨b, hb, h1⟩ := sm_has h0
  obtain ⟨a, ha, h2⟩ := sm_has h1
  have hE : (E a b && E b a) = true := by
    by_cases q : (E a b && E b a) = true
    · exact q
    · rw [if_neg q] at h2; exact absurd h2 (Nat.lt_irrefl 0)
  rw [Bool.and_eq_true] at hE
  rcases Nat.eq_zero_or_pos (fitN E n) with q | q
  · exact q
  · exfalso
    have cl := clo_cl E n
    have ha' : a < n := by omega
    exact ct_nocyc cl q ⟨a, ha', cl.2.2.1 a b a ha' hb ha' (cl.2.1 a b ha' hb hE.1) (cl.2.1 b a hb ha' hE.2)⟩
theorem fit_n0 (E : Nat → Nat → Bool) : fitN E 0 = 1 := rfl
theorem out_0 {E : Nat → Nat → Bool} {n : Nat} (h : fitN E n ≠ 0) : outN E n = 0 := by
  obtain ⟨k, hk⟩ : ∃ k, 2 ^ n = k + 1 := ⟨2 ^ n - 1, by have := Nat.two_pow_pos n; omega⟩
  show bs E n (2 ^ n) = 0
  rw [hk]
  exact bs_zero h k
theorem bs_ne {E : Nat → Nat → Bool} {n : Nat} (h : fitN E n = 0) : ∀ k, bs E n k ≠ 0
  | 0 => by
    show 2 ^ n - 1 ≠ 0
    have h0 : n ≠ 0 := fun e => by subst e; rw [fit_n0] at h; cases h
    have : 2 ^ 1 ≤ 2 ^ n := Nat.pow_le_pow_right (by decide) (by omega)
    omega
  | k + 1 => by
    rw [bs]
    split
    · next c =>
      intro e
      subst e
      rw [Nat.xor_zero] at c
      exact absurd h (Nat.pos_iff_ne_zero.mp c.2)
    · exact bs_ne h k
theorem out_lt (E : Nat → Nat → Bool) (n : Nat) : outN E n < 2 ^ n := bs_lt E n _ (Nat.le_refl _)
theorem cd_ne {S n : Nat} (hS : S < 2 ^ n) (h : S ≠ 0) : cd n S ≠ 0 := by
  obtain ⟨i, hi⟩ := bit_ne h
  have h2 : 0 < sm (fun i => if S.testBit i = true then 1 else 0) n := sm_pos (bit_lt hS hi) (by simp [hi])
  exact Nat.pos_iff_ne_zero.mp h2
theorem out_cd {E : Nat → Nat → Bool} {n : Nat} : cd n (outN E n) = 0 ↔ fitN E n ≠ 0 := by
  constructor
  · intro h e
    exact cd_ne (out_lt E n) (bs_ne e _) h
  · intro h
    rw [out_0 h, cd_0]
/-! the first order -/
theorem orb_bit (S b i : Nat) : (S ||| 2 ^ b).testBit i = (S.testBit i || decide (b = i)) := by rw [Nat.testBit_or, Nat.testBit_two_pow]
theorem orb_cd {S b n : Nat} (hb : b < n) (h : S.testBit b = false) : cd n (S ||| 2 ^ b) = cd n S + 1 := by
  have h1 : (S ||| 2 ^ b).testBit b = true := by rw [orb_bit]; simp
  have h2 : (S ||| 2 ^ b) ^^^ 2 ^ b = S := by
    apply Nat.eq_of_testBit_eq
    intro i
    rw [rm_bit, orb_bit]
    by_cases e : b = i
    · subst e; simp [h]
    · simp [e]
  have := cd_rm h1 n hb
  rw [h2] at this
  exact this.symm
theorem orb_lt {S b n : Nat} (hS : S < 2 ^ n) (hb : b < n) : S ||| 2 ^ b < 2 ^ n := Nat.or_lt_two_pow hS (Nat.pow_lt_pow_right (by decide) hb)
theorem lw_some {E : Nat → Nat → Bool} {n S : Nat} (hf : fitN E n ≠ 0) (hS : S < 2 ^ n) (hc : cd n S < n) : ∃ b, b < n ∧ lw E n S = nI b ∧ fre E n S b = true := by
  have hT0 : (2 ^ n - 1) ^^^ S ≠ 0 := fun e => by
    have h1 : S = 2 ^ n - 1 := by
      apply Nat.eq_of_testBit_eq
      intro i
      have := congrArg (fun z => Nat.testBit z i) e
      simp only [Nat.testBit_xor, Nat.zero_testBit] at this
      cases h2 : S.testBit i <;> cases h3 : (2 ^ n - 1).testBit i <;> simp_all
    rw [h1, cd_f] at hc
    exact absurd hc (Nat.lt_irrefl n)
  obtain ⟨x, hx, hF⟩ := ct_first (clo_cl E n) (ct_nocyc (clo_cl E n) (Nat.pos_of_ne_zero hf)) (full_xor hS) hT0
  have hbit : ∀ i, i < n → ((2 ^ n - 1) ^^^ S).testBit i = !S.testBit i := fun i hi => by
    rw [Nat.testBit_xor, full_bit, decide_eq_true hi]
    cases S.testBit i <;> rfl
  have hfr : fre E n S x = true := fre_iff.mpr ⟨by
    have := (fF_iff.mp hF).1
    rw [hbit x hx] at this
    simpa using this, fun z hz hE => by
    cases q : S.testBit z with
    | true => rfl
    | false =>
      have := (fF_iff.mp hF).2 z hz (by rw [hbit z hz, q]; rfl)
      rw [hE] at this
      cases this⟩
  rcases lw_low E n S with ⟨-, h2⟩ | ⟨b, -, hb, e, hp, -⟩
  · have := h2 x (Nat.zero_le _) hx
    rw [hfr] at this
    cases this
  · exact ⟨b, hb, e, hp⟩
theorem sq_next {E : Nat → Nat → Bool} {n k b : Nat} (hn : n ≤ 10) (hb : b < n) (h : lw E n (sq E n k) = nI b) : sq E n (k + 1) = sq E n k ||| 2 ^ b := by
  show sq E n k ||| 2 ^ lwi (lw E n (sq E n k)) = _
  rw [h, lwi_nI (by omega)]
theorem sq_inv {E : Nat → Nat → Bool} {n : Nat} (hn : n ≤ 10) (hf : fitN E n ≠ 0) : ∀ k, k ≤ n → sq E n k < 2 ^ n ∧ cd n (sq E n k) = k ∧ upC E n (sq E n k)
  | 0, _ => ⟨Nat.two_pow_pos n, cd_0 n, fun o k _ _ _ h => by
    rw [show sq E n 0 = 0 from rfl, Nat.zero_testBit] at h
    cases h⟩
  | k + 1, hk => by
    obtain ⟨h1, h2, h3⟩ := sq_inv hn hf k (by omega)
    obtain ⟨b, hb, e, hp⟩ := lw_some hf h1 (by omega)
    obtain ⟨p1, p2⟩ := fre_iff.mp hp
    rw [sq_next hn hb e]
    refine ⟨orb_lt h1 hb, by rw [orb_cd hb p1, h2], fun o c ho hc hE hT => ?_⟩
    rw [orb_bit] at hT ⊢
    rw [Bool.or_eq_true, decide_eq_true_iff] at hT ⊢
    rcases hT with q | q
    · exact Or.inl (h3 o c ho hc hE q)
    · subst q; exact Or.inl (p2 o ho hE)
/-- the book at the place k of the first order -/
theorem ord_at {E : Nat → Nat → Bool} {n k : Nat} (hn : n ≤ 10) (hf : fitN E n ≠ 0) (hk : k < n) : ∃ b, b < n ∧ ordV E n (nI k) = nI b ∧ (sq E n k).testBit b = false ∧ (∀ z, z < n → E z b = true → (sq E n k).testBit z = true) ∧ sq E n (k + 1) = sq E n k ||| 2 ^ b := by
  obtain ⟨h1, h2, -⟩ := sq_inv hn hf k (by omega)
  obtain ⟨b, hb, e, hp⟩ := lw_some hf h1 (by omega)
  obtain ⟨p1, p2⟩ := fre_iff.mp hp
  refine ⟨b, hb, ?_, p1, p2, sq_next hn hb e⟩
  unfold ordV
  rw [if_neg (fun q => by
    rcases q with q | q
    · exact hf q
    · have := (nI_leI (by omega) (by omega)).mp q
      omega), nI_tc (by omega), e]
theorem ord_no {E : Nat → Nat → Bool} {n : Nat} (hf : fitN E n = 0) (p : Int32) : ordV E n p = -1 := if_pos (Or.inl hf)
theorem sq_up {E : Nat → Nat → Bool} {n i : Nat} (j : Nat) (h : (sq E n j).testBit i = true) : ∀ d, (sq E n (j + d)).testBit i = true
  | 0 => h
  | d + 1 => by
    show (sq E n (j + d) ||| 2 ^ lwi (lw E n (sq E n (j + d)))).testBit i = true
    rw [orb_bit, sq_up j h d, Bool.true_or]
/-- an earlier book, by its place -/
theorem ord_two {E : Nat → Nat → Bool} {n j k bj bk : Nat} (hjk : j < k) (hj : ordV E n (nI j) = nI bj) (q1 : ∀ z, z < n → E z bj = true → (sq E n j).testBit z = true) (q2 : sq E n (j + 1) = sq E n j ||| 2 ^ bj) (hb : bk < n) (p1 : (sq E n k).testBit bk = false) : bk ≠ bj ∧ E bk bj = false := by
  refine ⟨fun e => ?_, ?_⟩
  · subst e
    have h1 : (sq E n (j + 1)).testBit bk = true := by rw [q2, orb_bit]; simp
    have := sq_up (j + 1) h1 (k - (j + 1))
    rw [show j + 1 + (k - (j + 1)) = k by omega, p1] at this
    cases this
  · cases e : E bk bj with
    | false => rfl
    | true =>
      have := sq_up j (q1 bk hb e) (k - j)
      rw [show j + (k - j) = k by omega, p1] at this
      cases this
theorem pl_least {E : Nat → Nat → Bool} {n k b : Nat} (hn : n ≤ 10) (hf : fitN E n ≠ 0) (hk : k < n) (hb : b < n) (p2 : ∀ z, z < n → E z b = true → (sq E n k).testBit z = true) : cd n (clo E n b) ≤ k := by
  obtain ⟨h1, h2, h3⟩ := sq_inv hn hf k (by omega)
  have cl := clo_cl E n
  have hQ := cl.2.2.2 (fun a c => ((sq E n k).testBit c = true ∨ c = b) → (sq E n k).testBit a = true) (fun a c ha hc hE q => by
    rcases q with q | q
    · exact h3 a c ha hc hE q
    · subst q; exact p2 a ha hE) (fun x y z _ _ _ hxy hyz q => hxy (Or.inl (hyz q)))
  have := cd_mono (S := clo E n b) (T := sq E n k) (fun i hi => hQ i b (bit_lt (cl.1 b hb) hi) hb hi (Or.inr rfl)) n
  omega
theorem cd_dis {S T n : Nat} (h : ∀ i, i < n → S.testBit i = true → T.testBit i = false) : cd n S + cd n T ≤ n := by
  have h1 : sm (fun i => (if S.testBit i = true then 1 else 0) + (if T.testBit i = true then 1 else 0)) n ≤ sm (fun _ => 1) n := sm_le (fun i hi => by
    by_cases q : S.testBit i = true
    · rw [if_pos q, h i hi q]; decide
    · rw [if_neg q]
      split <;> decide)
  rw [sm_add] at h1
  have h2 : ∀ m, sm (fun _ => 1) m = m := fun m => by
    induction m with
    | zero => rfl
    | succ m ih => show sm (fun _ => 1) m + 1 = m + 1; rw [ih]
  rw [h2] at h1
  exact h1
theorem pl_most {E : Nat → Nat → Bool} {n k b : Nat} (hn : n ≤ 10) (hf : fitN E n ≠ 0) (hk : k < n) (hb : b < n) (p1 : (sq E n k).testBit b = false) : cd n (clo (tr E) n b) + k + 1 ≤ n := by
  obtain ⟨h1, h2, h3⟩ := sq_inv hn hf k (by omega)
  have cl := clo_cl (tr E) n
  have hQ := cl.2.2.2 (fun a c => (sq E n k).testBit c = false → (sq E n k).testBit a = false) (fun a c ha hc hE q => by
    cases e : (sq E n k).testBit a with
    | false => rfl
    | true => rw [h3 c a hc ha hE e] at q; cases q) (fun x y z _ _ _ hxy hyz q => hxy (hyz q))
  have hself : (clo (tr E) n b).testBit b = false := by
    rw [← cl_tr (clo_cl E n) cl b b hb hb]
    cases e : (clo E n b).testBit b with
    | false => rfl
    | true => exact absurd ⟨b, hb, e⟩ (ct_nocyc (clo_cl E n) (Nat.pos_of_ne_zero hf))
  have := cd_dis (S := clo (tr E) n b) (T := sq E n k ||| 2 ^ b) (n := n) (fun i hi q => by
    rw [orb_bit, hQ i b hi hb q p1]
    have : b ≠ i := fun e => by subst e; rw [hself] at q; cases q
    simp [this])
  rw [orb_cd hb p1, h2] at this
  omega
theorem bf_0 {E : Nat → Nat → Bool} {n b : Nat} : bfM E n b = 0 ↔ ∀ a, a < n → E a b = false := by
  rw [bit_z]
  constructor
  · intro h a ha
    have := h a
    rw [bfM_bit, decide_eq_true ha, Bool.true_and] at this
    exact this
  · intro h i
    rw [bfM_bit]
    by_cases e : i < n
    · rw [h i e, Bool.and_false]
    · simp [e]
theorem firsts_e {E : Nat → Nat → Bool} {n : Nat} (h0 : n ≠ 0) : sm (fun x => if fitN E n ≠ 0 ∧ bfM E n x = 0 then ct E n ((2 ^ n - 1) ^^^ 2 ^ x) else 0) n = fitN E n := by
  by_cases hf : fitN E n = 0
  · rw [hf]
    refine (sm_congr (fun i _ => if_neg (fun q => q.1 rfl))).trans (sm_zero n)
  · have hs : 2 ^ n - 1 ≠ 0 := by
      have : 2 ^ 1 ≤ 2 ^ n := Nat.pow_le_pow_right (by decide) (by omega)
      omega
    refine Eq.trans ?_ (ct_s E n hs).symm
    refine sm_congr (fun x hx => ?_)
    have hi : fF E n (2 ^ n - 1) x = true ↔ bfM E n x = 0 := by
      rw [bf_0, fF_iff]
      constructor
      · intro q a ha
        exact q.2 a ha (by rw [full_bit]; simp [ha])
      · intro q
        exact ⟨by rw [full_bit]; simp [hx], fun z hz _ => q z hz⟩
    by_cases q : bfM E n x = 0
    · rw [if_pos ⟨hf, q⟩, if_pos (hi.mpr q)]
    · rw [if_neg (fun z => q z.2), if_neg (fun z => q (hi.mp z))]
