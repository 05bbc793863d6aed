/-! the first order that fits; places; books left out -/
def fre (E : Nat → Nat → Bool) (n S b : Nat) : Bool := !S.testBit b && decide (∀ z, z < n → E z b = true → S.testBit z = true)
theorem fre_iff {E : Nat → Nat → Bool} {n S b : Nat} : fre E n S b = true ↔ S.testBit b = false ∧ ∀ z, z < n → E z b = true → S.testBit z = true := by
  unfold fre
  rw [Bool.and_eq_true, decide_eq_true_iff]
  simp
def isLow (p : Nat → Bool) (lo n : Nat) (v : Int32) : Prop := (v = -1 ∧ ∀ b, lo ≤ b → b < n → p b = false) ∨ ∃ b, lo ≤ b ∧ b < n ∧ v = nI b ∧ p b = true ∧ ∀ c, lo ≤ c → c < b → p c = false
theorem isLow_uni {p : Nat → Bool} {lo n : Nat} {v w : Int32} (h : isLow p lo n v) (k : isLow p lo n w) : v = w := by
  rcases h with ⟨h1, h2⟩ | ⟨b, h1, h2, h3, h4, h5⟩ <;> rcases k with ⟨k1, k2⟩ | ⟨c, k1, k2, k3, k4, k5⟩
  · rw [h1, k1]
  · rw [h2 c k1 k2] at k4; cases k4
  · rw [k2 b h1 h2] at h4; cases h4
  · rcases Nat.lt_trichotomy b c with q | q | q
    · rw [k5 b h1 q] at h4; cases h4
    · subst q; rw [h3, k3]
    · rw [h5 c k1 q] at k4; cases k4
def lwD (p : Nat → Bool) (n : Nat) : Nat → Int32
  | 0 => -1
  | i + 1 => if p (n - 1 - i) = true then nI (n - 1 - i) else lwD p n i
theorem lwD_low (p : Nat → Bool) (n : Nat) : ∀ i, i ≤ n → isLow p (n - i) n (lwD p n i)
  | 0, _ => Or.inl ⟨rfl, fun b h1 h2 => by omega⟩
  | i + 1, hi => by
    rw [lwD]
    by_cases q : p (n - 1 - i) = true
    · rw [if_pos q]
      exact Or.inr ⟨n - 1 - i, by omega, by omega, rfl, q, fun c h1 h2 => by omega⟩
    · rw [if_neg q]
      have q' : p (n - 1 - i) = false := by simpa using q
      have hb : ∀ c, n - (i + 1) ≤ c → ¬ n - i ≤ c → c = n - 1 - i := fun c h1 h2 => by omega
      rcases lwD_low p n i (by omega) with ⟨h1, h2⟩ | ⟨b, h1, h2, h3, h4, h5⟩
      · refine Or.inl ⟨h1, fun b hl hb2 => ?_⟩
        by_cases z : n - i ≤ b
        · exact h2 b z hb2
        · rw [hb b hl z]; exact q'
      · refine Or.inr ⟨b, by omega, h2, h3, h4, fun c hl hc => ?_⟩
        by_cases z : n - i ≤ c
        · exact h5 c z hc
        · rw [hb c hl z]; exact q'
def lw (E : Nat → Nat → Bool) (n S : Nat) : Int32 := lwD (fre E n S) n n
theorem lw_low (E : Nat → Nat → Bool) (n S : Nat) : isLow (fre E n S) 0 n (lw E n S) := by
  have := lwD_low (fre E n S) n n (Nat.le_refl n)
  rw [Nat.sub_self] at this
  exact this
theorem lwD_congr {p q : Nat → Bool} {n : Nat} (h : ∀ b, b < n → p b = q b) : ∀ i, i ≤ n → lwD p n i = lwD q n i
  | 0, _ => rfl
  | i + 1, hi => by rw [lwD, lwD, h (n - 1 - i) (by omega), lwD_congr h i (by omega)]
def lwi (v : Int32) : Nat := if v = -1 then 31 else v.toNatClampNeg
def sq (E : Nat → Nat → Bool) (n : Nat) : Nat → Nat
  | 0 => 0
  | k + 1 => sq E n k ||| 2 ^ lwi (lw E n (sq E n k))
theorem nI_nm1 {k : Nat} (h : k < 2 ^ 31) : nI k ≠ -1 := fun e => by
  have h1 := nI_toInt h
  rw [e] at h1
  have h2 : (-1 : Int32).toInt = -1 := by decide
  omega
theorem lwi_nI {k : Nat} (h : k < 2 ^ 31) : lwi (nI k) = k := by
  unfold lwi
  rw [if_neg (nI_nm1 h), nI_clamp h]
theorem lw_stay {E : Nat → Nat → Bool} {n S : Nat} (hn : n ≤ 10) : lw E n (S ||| 2 ^ 31) = lw E n S := by
  refine lwD_congr (fun b hb => ?_) n (Nat.le_refl n)
  have hx : ∀ z, z < n → (S ||| 2 ^ 31).testBit z = S.testBit z := fun z hz => by
    rw [Nat.testBit_or, Nat.testBit_two_pow, decide_eq_false (by omega), Bool.or_false]
  refine Bool.eq_iff_iff.mpr ?_
  rw [fre_iff, fre_iff, hx b hb]
  constructor
  · rintro ⟨h1, h2⟩
    exact ⟨h1, fun z hz hE => by rw [← hx z hz]; exact h2 z hz hE⟩
  · rintro ⟨h1, h2⟩
    exact ⟨h1, fun z hz hE => by rw [hx z hz]; exact h2 z hz hE⟩
theorem sq_stuck {E : Nat → Nat → Bool} {n k : Nat} (hn : n ≤ 10) (h : lw E n (sq E n k) = -1) : ∀ j, lw E n (sq E n (k + j)) = -1
  | 0 => h
  | j + 1 => by
    have ih := sq_stuck hn h j
    show lw E n (sq E n (k + j) ||| 2 ^ lwi (lw E n (sq E n (k + j)))) = -1
    rw [ih, show lwi (-1) = 31 from rfl, lw_stay hn, ih]
theorem lowestFree_e {n S : Nat} {E : Nat → Nat → Bool} {bef : Nat → Int32} (hn : n ≤ 10) (hS : S < 2 ^ n) (h : ∀ b, b < n → bef b = nI (bfM E n b)) : f_X1_lowestFree (nI S) (nI n) bef = some (lw E n S) := by
  have key : Ok (f_X1_lowestFree (nI S) (nI n) bef) (fun r => isLow (fre E n S) 0 n r) := by
    unfold f_X1_lowestFree
    refine ok_wl (fun i s => s = nI i ∧ ∀ c, c < i → fre E n S c = false) (Sum.elim (fun v => isLow (fre E n S) 0 n v) (fun _ => ∀ c, c < n → fre E n S c = false)) n (by omega) ⟨rfl, fun c h => by omega⟩ ?_ ?_ ?_
    · rintro i s hi ⟨rfl, hs⟩
      have hno : fre E n S i = false → Ok (some (Sum.inl (nI i + 1)) : Option (Int32 ⊕ (Int32 ⊕ Unit))) (Sum.elim (fun s => s = nI (i + 1) ∧ ∀ c, c < i + 1 → fre E n S c = false) (Sum.elim (fun v => isLow (fre E n S) 0 n v) (fun _ => ∀ c, c < n → fre E n S c = false))) := fun q => ok_s ⟨nI_1 i, fun c hc => by
        by_cases e : c = i
        · subst e; exact q
        · exact hs c (by omega)⟩
      refine ok_nle hi (by omega) (ok_be (has_e (m10 hn hS) (by omega)) ?_)
      dsimp only [u1, u0, jn]
      by_cases q : S.testBit i = true
      · rw [if_pos q]
        refine ok_f (by decide) (hno ?_)
        cases z : fre E n S i with
        | false => rfl
        | true => rw [(fre_iff.mp z).1] at q; cases q
      · rw [if_neg q]
        have q' : S.testBit i = false := by simpa using q
        refine ok_t rfl (ok_rd i rfl (by omega) (by decide) ?_)
        rw [h i hi]
        have hd := iN_sub (A := bfM E n i) (S := S) (m10 hn (bfM_lt E n i))
        have hf : fre E n S i = true ↔ nI (bfM E n i) &&& (nI S ^^^ (-1)) = 0 := by
          rw [fre_iff, hd]
          constructor
          · rintro ⟨-, h2⟩ z hz
            rw [bfM_bit, Bool.and_eq_true, decide_eq_true_iff] at hz
            exact h2 z hz.1 hz.2
          · intro h2
            exact ⟨q', fun z hz hE => h2 z (by rw [bfM_bit]; simp [hz, hE])⟩
        by_cases c : nI (bfM E n i) &&& (nI S ^^^ (-1)) = 0
        · refine ok_t c (ok_s ?_)
          exact Or.inr ⟨i, by omega, hi, rfl, hf.mpr c, fun c _ hc => hs c hc⟩
        · refine ok_f c (hno ?_)
          cases z : fre E n S i with
          | false => rfl
          | true => exact absurd (hf.mp z) c
    · rintro s ⟨rfl, hs⟩
      exact ok_yle (Nat.le_refl _) (by omega) (ok_s hs)
    · rintro (v | v) hr
      · exact ok_s hr
      · exact ok_s (Or.inl ⟨rfl, fun c _ hc => hr c hc⟩)
  obtain ⟨r, h1, h2⟩ := key
  rw [h1, isLow_uni h2 (lw_low E n S)]
def ordV (E : Nat → Nat → Bool) (n : Nat) (p : Int32) : Int32 := if fitN E n = 0 ∨ nI n ≤ p then -1 else lw E n (sq E n p.toNatClampNeg)
theorem firstOrder_e {n : Nat} {E : Nat → Nat → Bool} {bef : Nat → Int32} {any p : Int32} (hn : n ≤ 10) (hp : 0 ≤ p) (h : ∀ b, b < n → bef b = nI (bfM E n b)) (ha : any = 0 ↔ fitN E n = 0) : f_X1_bookInFirstOrder p any (nI n) bef = some (ordV E n p) := by
  have key : Ok (f_X1_bookInFirstOrder p any (nI n) bef) (fun r => r = ordV E n p) := by
    unfold f_X1_bookInFirstOrder ordV
    dsimp only [jn, u0]
    by_cases q : any = 0
    · refine ok_t q (ok_s ?_)
      rw [if_pos (Or.inl (ha.mp q))]
    · have q2 : ¬ fitN E n = 0 := fun z => q (ha.mpr z)
      refine ok_f q ?_
      by_cases hpn : p < nI n
      · obtain ⟨k, hk, rfl⟩ := nI_of (Int32.not_lt.mpr hp)
        have hkn : k < n := (nI_ltI hk (by omega)).mp hpn
        have hneg : ¬ (fitN E n = 0 ∨ nI n ≤ nI k) := fun z => by
          rcases z with z | z
          · exact q2 z
          · exact Int32.not_lt.mpr z hpn
        rw [if_neg hneg, nI_clamp hk]
        refine ok_t hpn (ok_be (lowestFree_e (S := 0) hn (Nat.two_pow_pos n) h) ?_)
        dsimp only [u1]
        refine ok_wl (fun i s => s.2.2 = nI i ∧ s.1 = nI (sq E n i) ∧ sq E n i < 2 ^ n ∧ s.2.1 = lw E n (sq E n i)) (fun r => r = lw E n (sq E n k)) k (by omega) ⟨rfl, rfl, Nat.two_pow_pos n, rfl⟩ ?_ ?_ ?_
        · rintro i ⟨l2, l3, l4⟩ hi ⟨h1, h2, h3, h4⟩
          dsimp only at h1 h2 h4
          subst h1 h2 h4
          refine ok_nle hi (by omega) ?_
          by_cases st : lw E n (sq E n i) = -1
          · refine ok_t st (ok_s ?_)
            have := sq_stuck hn st (k - i)
            rw [show i + (k - i) = k by omega] at this
            show lw E n (sq E n i) = _
            rw [st, this]
          · refine ok_f st ?_
            rcases lw_low E n (sq E n i) with z | ⟨b, -, hb, e, -, -⟩
            · exact absurd z.1 st
            · have e3 : sq E n (i + 1) = sq E n i ||| 2 ^ b := by rw [sq, e, lwi_nI (by omega)]
              have e4 : sq E n (i + 1) < 2 ^ n := by
                rw [e3]
                exact Nat.or_lt_two_pow h3 (Nat.pow_lt_pow_right (by decide) hb)
              have e5 : nI (sq E n i) ||| ((1 : Int32) <<< (lw E n (sq E n i) &&& 31)) = nI (sq E n (i + 1)) := by rw [e, iN_shl b (by omega), iN_or, e3]
              dsimp only [u1]
              rw [e5]
              exact ok_be (lowestFree_e hn e4 h) (ok_s ⟨nI_1 i, rfl, e4, rfl⟩)
        · rintro ⟨l2, l3, l4⟩ ⟨h1, h2, h3, h4⟩
          dsimp only at h1 h2 h4
          subst h1 h2 h4
          exact ok_yle (Nat.le_refl _) (by omega) (ok_s rfl)
        · rintro r hr
          exact ok_s hr
      · refine ok_f hpn (ok_s ?_)
        rw [if_pos (Or.inr (Int32.not_lt.mp hpn))]
  obtain ⟨r, h1, h2⟩ := key
  rw [h1, h2]
theorem leastPlace_e {n b : Nat} {E : Nat → Nat → Bool} {A : Nat → Nat} {any : Int32} {aB : Nat → Int32} (hn : n ≤ 10) (hb : b < n) (hA : A b < 2 ^ n) (h : aB b = nI (A b)) (ha : any = 0 ↔ fitN E n = 0) : f_X1_leastPlace (nI b) any aB = some (if fitN E n = 0 then -1 else nI (cd n (A b))) := by
  unfold f_X1_leastPlace
  dsimp only [jn]
  by_cases q : any = 0
  · rw [if_pos q, if_pos (ha.mp q)]; rfl
  · rw [if_neg q, if_neg (fun z => q (ha.mpr z)), rdA_nI (by omega) (by decide), h, Option.bind_some, bc_e hn hA]; rfl
theorem greatestPlace_e {n b : Nat} {E : Nat → Nat → Bool} {B : Nat → Nat} {any : Int32} {aH : Nat → Int32} (hn : n ≤ 10) (hb : b < n) (hB : B b < 2 ^ n) (h : aH b = nI (B b)) (ha : any = 0 ↔ fitN E n = 0) : f_X1_greatestPlace (nI b) any (nI n) aH = some (if fitN E n = 0 then -1 else nI n - 1 - nI (cd n (B b))) := by
  unfold f_X1_greatestPlace
  dsimp only [jn]
  by_cases q : any = 0
  · rw [if_pos q, if_pos (ha.mp q)]; rfl
  · rw [if_neg q, if_neg (fun z => q (ha.mpr z)), rdA_nI (by omega) (by decide), h, Option.bind_some, bc_e hn hB]; rfl
/-- the books left out, the sets up to k looked at -/
def bs (E : Nat → Nat → Bool) (n : Nat) : Nat → Nat
  | 0 => 2 ^ n - 1
  | k + 1 => if cd n k < cd n (bs E n k) ∧ 0 < ct E n ((2 ^ n - 1) ^^^ k) then k else bs E n k
theorem bs_lt (E : Nat → Nat → Bool) (n : Nat) : ∀ k, k ≤ 2 ^ n → bs E n k < 2 ^ n
  | 0, _ => full_lt n
  | k + 1, h => by
    rw [bs]
    split
    · omega
    · exact bs_lt E n k (by omega)
def outN (E : Nat → Nat → Bool) (n : Nat) : Nat := bs E n (2 ^ n)
theorem full_xor {n k : Nat} (hk : k < 2 ^ n) : (2 ^ n - 1) ^^^ k < 2 ^ n := Nat.xor_lt_two_pow (full_lt n) hk
theorem bs_zero {E : Nat → Nat → Bool} {n : Nat} (h : fitN E n ≠ 0) : ∀ k, bs E n (k + 1) = 0
  | 0 => by
    rw [bs, cd_0]
    by_cases q : n = 0
    · subst q; simp [bs]
    · rw [if_pos]
      refine ⟨?_, ?_⟩
      · have := cd_grow (S := 0) (T := 2 ^ n - 1) (x := 0) (fun i h => by simp at h) (by simp) (by rw [full_bit]; simp; omega) n (by omega)
        rw [cd_0] at this
        exact this
      · rw [Nat.xor_zero]
        exact Nat.pos_of_ne_zero h
  | k + 1 => by
    rw [bs, bs_zero h k, cd_0, if_neg (fun z => Nat.not_lt_zero _ z.1)]
theorem leastWrong_e {n : Nat} {E : Nat → Nat → Bool} {c any : Int32} {f1 f2 : Nat → Int32} (hn : n ≤ 10) (h : ∀ b, b < n → f1 b = nI (bfM E n b)) (ha : any = 0 ↔ fitN E n = 0) (ht : tabG E n c f2) :
    Ok (f_X1_leastWrongBooks c any (nI n) f1 f2) (fun o => o.1 = nI (outN E n) ∧ tabG E n o.2.1 o.2.2) := by
  have h2 := p2_31 hn
  have h2' := Nat.two_pow_pos n
  unfold f_X1_leastWrongBooks
  by_cases q : any = 0
  · refine ok_t q (ok_be (allBooks_e hn) ?_)
    dsimp only [u1]
    refine ok_wl (fun i s => s.2.1 = nI i ∧ s.1 = nI (bs E n i) ∧ tabG E n s.2.2.1 s.2.2.2) (fun r => r.1 = nI (outN E n) ∧ tabG E n r.2.1 r.2.2) (2 ^ n) (by omega) ⟨rfl, rfl, ht⟩ ?_ ?_ ?_
    · rintro i ⟨l1, l2, w4, w5⟩ hi ⟨e1, e2, hT⟩
      dsimp only at e1 e2 hT
      subst e1 e2
      have hb := bs_lt E n i (by omega)
      have c1 := cd_le i n
      have c2 := cd_le (bs E n i) n
      dsimp only [u4]
      refine ok_be (allBooks_e hn) ?_
      dsimp only [u1]
      refine ok_f (nI_nlt (by omega) (by omega)) (ok_be (bc_e hn hi) ?_)
      dsimp only [u1]
      refine ok_be (bc_e hn hb) ?_
      dsimp only [u1, jn, u3]
      by_cases z : cd n i < cd n (bs E n i)
      · refine ok_f (nI_ge z (by omega)) (ok_be (allBooks_e hn) ?_)
        dsimp only [u1]
        rw [iN_xor]
        refine ok_bd _ (ordersOf_e hn (full_xor hi) h hT) ?_
        rintro ⟨r, o18, o19⟩ ⟨hr, hT2⟩
        dsimp only at hr hT2
        subst hr
        have hbd := ct_bd E hn (full_xor hi)
        dsimp only [u3]
        by_cases y : 0 < ct E n ((2 ^ n - 1) ^^^ i)
        · refine ok_f (nI_nle y (by omega)) (ok_s ⟨nI_1 i, ?_, hT2⟩)
          dsimp only
          rw [bs, if_pos ⟨z, y⟩]
        · refine ok_t (by rw [show ct E n ((2 ^ n - 1) ^^^ i) = 0 by omega]; exact Int32.le_refl _) (ok_s ⟨nI_1 i, ?_, hT2⟩)
          dsimp only
          rw [bs, if_neg (fun x => y x.2)]
      · refine ok_t (nI_le (by omega) (by omega)) (ok_s ⟨nI_1 i, ?_, hT⟩)
        dsimp only
        rw [bs, if_neg (fun x => z x.1)]
    · rintro ⟨l1, l2, w4, w5⟩ ⟨e1, e2, hT⟩
      dsimp only at e1 e2 hT
      subst e1 e2
      dsimp only [u4]
      refine ok_be (allBooks_e hn) ?_
      dsimp only [u1]
      exact ok_t (nI_lt (by omega) (by omega)) (ok_s ⟨rfl, hT⟩)
    · rintro ⟨r1, r2, r3⟩ hr
      exact ok_s hr
  · refine ok_f q (ok_s ⟨?_, ht⟩)
    obtain ⟨k, hk⟩ : ∃ k, 2 ^ n = k + 1 := ⟨2 ^ n - 1, by omega⟩
    show (0 : Int32) = _
    unfold outN
    rw [hk, bs_zero (fun z => q (ha.mpr z))]
    rfl
