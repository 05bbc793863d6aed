/-! the reference: books left out, what would be, the share -/
theorem fx_sub {n i : Nat} (h : i < 2 ^ n) : 2 ^ n - 1 - i = (2 ^ n - 1) ^^^ i := by
  apply Nat.eq_of_testBit_eq
  intro j
  rw [show 2 ^ n - 1 - i = 2 ^ n - (i + 1) by omega, Nat.testBit_two_pow_sub_succ h, Nat.testBit_xor, full_bit]
  by_cases e : j < n
  · simp [e]
  · rw [bit_out h (by omega)]
    simp [e]
theorem fx_out {n i : Nat} (hn : n ≤ 10) (h : i < 2 ^ n) : nI (2 ^ n - 1) &&& (nI ((2 ^ n - 1) ^^^ i) ^^^ (-1)) = nI i := by
  rw [iN_m1, iN_xor, iN_and]
  congr 1
  apply Nat.eq_of_testBit_eq
  intro j
  rw [Nat.testBit_and, Nat.testBit_xor, Nat.testBit_xor, full_bit]
  by_cases e : j < n
  · rw [m32_bit (by omega)]
    simp [e]
  · rw [bit_out h (by omega)]
    simp [e]
theorem bs_inv (E : Nat → Nat → Bool) (n : Nat) : ∀ i, bs E n i < i ∨ bs E n i = 2 ^ n - 1
  | 0 => Or.inr rfl
  | i + 1 => by
    rw [bs]
    split
    · exact Or.inl (by omega)
    · rcases bs_inv E n i with h | h
      · exact Or.inl (by omega)
      · exact Or.inr h
theorem cd_f (n : Nat) : cd n (2 ^ n - 1) = n := by
  have h : ∀ m, m ≤ n → cd m (2 ^ n - 1) = m := by
    intro m
    induction m with
    | zero => intro _; rfl
    | succ m ih =>
      intro hm
      show cd m (2 ^ n - 1) + (if (2 ^ n - 1).testBit m = true then 1 else 0) = m + 1
      rw [ih (by omega), full_bit, decide_eq_true (by omega)]
      rfl
  exact h n (Nat.le_refl n)
/-- the reference's second ground never comes in -/
theorem bs_tie {E : Nat → Nat → Bool} {n i : Nat} (hi : i < 2 ^ n) (hc : cd n i = cd n (bs E n i)) : bs E n i ≤ i := by
  rcases bs_inv E n i with h | h
  · omega
  · rw [h, cd_f] at hc
    have : i = 2 ^ n - 1 := bit_ext hi (full_lt n) (fun j hj => by rw [cd_full n (by omega) j hj, full_bit]; simp [hj])
    omega
theorem leftOut_e {s P L M Y f2 f3 : Nat → Int32} {n : Nat} (hn : n ≤ 10) (h : rw4 s n P L M Y) : Ok (f_X5_leftOut s f2 f3) (fun o => o.1 = nI (outN (eB P L M Y) n)) := by
  have h2 := p2_31 hn
  have h2' := Nat.two_pow_pos n
  unfold f_X5_leftOut
  refine ok_bd _ (lays_e hn h) ?_
  rintro ⟨o2, o3⟩ ho
  have ho2 : ∀ S, S < 2 ^ n → o3 S = nI (ct (eB P L M Y) n S) := ho.2
  refine ok_u2 (rd40 h ?_)
  rw [iN_full (by omega)]
  refine ok_wl (fun i s => s.2 = nI (2 ^ n - i) - 1 ∧ s.1 = nI (bs (eB P L M Y) n i)) (fun r => r = nI (outN (eB P L M Y) n)) (2 ^ n) (by omega) ⟨by
    dsimp only
    rw [iN_1, Nat.sub_zero, pk_sub h2'], rfl⟩ ?_ ?_ (fun r hr => ok_u1 (ok_s hr))
  · rintro i ⟨l1, l2⟩ hi ⟨e1, e2⟩
    dsimp only at e1 e2
    obtain ⟨d1, d2⟩ := dn_s hi
    rw [d1] at e1
    subst e1 e2
    have hb := bs_lt (eB P L M Y) n i (by omega)
    have c1 := cd_le i n
    have c2 := cd_le (bs (eB P L M Y) n i) n
    have hS := full_xor (n := n) hi
    have hbd := ct_bd (eB P L M Y) hn hS
    refine ok_u2 (ok_f (nI_pos (by omega)) (rd40 h ?_))
    rw [iN_full (by omega)]
    refine ok_rd (2 ^ n - 1 - i) rfl (by omega) (by decide) ?_
    have hx := fx_sub hi
    rw [hx, ho2 _ hS, fx_out hn hi]
    rw [hx] at d2
    refine ok_jn (fun v => v = if cd n i < cd n (bs (eB P L M Y) n i) ∧ 0 < ct (eB P L M Y) n ((2 ^ n - 1) ^^^ i) then 1 else 0) ?_ ?_
    · rintro s10 rfl
      refine ok_u1 (ok_jd ?_)
      by_cases q : cd n i < cd n (bs (eB P L M Y) n i) ∧ 0 < ct (eB P L M Y) n ((2 ^ n - 1) ^^^ i)
      · rw [if_pos q]
        refine ok_f (by decide) (ok_u1 (ok_s ⟨d2, ?_⟩))
        dsimp only
        rw [bs, if_pos q]
      · rw [if_neg q]
        refine ok_t rfl (ok_u1 (ok_s ⟨d2, ?_⟩))
        dsimp only
        rw [bs, if_neg q]
    · intro K hK
      refine ok_jd ?_
      by_cases y : 0 < ct (eB P L M Y) n ((2 ^ n - 1) ^^^ i)
      · refine ok_f (nI_nle y (by omega)) (ok_be (on_e hn hi) (ok_u1 (ok_be (on_e hn hb) (ok_u1 (ok_jd ?_)))))
        by_cases z : cd n i < cd n (bs (eB P L M Y) n i)
        · refine ok_t (nI_lt z (by omega)) (ok_u0 (hK _ ?_))
          rw [if_pos ⟨z, y⟩]
        · have hneg : ¬ (cd n i < cd n (bs (eB P L M Y) n i) ∧ 0 < ct (eB P L M Y) n ((2 ^ n - 1) ^^^ i)) := fun x => z x.1
          refine ok_f (nI_nlt (by omega) (by omega)) (ok_be (on_e hn hi) (ok_u1 (ok_be (on_e hn hb) (ok_u1 ?_))))
          by_cases x : cd n i = cd n (bs (eB P L M Y) n i)
          · refine ok_t (by rw [x]) (ok_t (nI_le (bs_tie hi x) (by omega)) (ok_u0 (hK _ ?_)))
            rw [if_neg hneg]
          · refine ok_f (nI_ne x (by omega) (by omega)) (ok_u0 (hK _ ?_))
            rw [if_neg hneg]
      · refine ok_t (by rw [show ct (eB P L M Y) n ((2 ^ n - 1) ^^^ i) = 0 by omega]; exact Int32.le_refl _) (ok_u0 (hK _ ?_))
        rw [if_neg (fun x => y x.2)]
  · rintro ⟨l1, l2⟩ ⟨e1, e2⟩
    dsimp only at e1 e2
    rw [Nat.sub_self] at e1
    subst e1 e2
    exact ok_u2 (ok_t dn_e (ok_s rfl))
theorem copies_e {a c n0 n1 : Nat} {f0 f1 : Nat → Int32} (ha : a + 41 ≤ n0) (hc : c + 41 ≤ n1) (h0 : n0 < 2 ^ 31) (h1 : n1 < 2 ^ 31) : Ok (f_X5_copies (nI a) (nI c) n0 f0 n1 f1) (fun o => (∀ k, k < 41 → o (c + k) = f0 (a + k)) ∧ ∀ j, (j < c ∨ c + 41 ≤ j) → o j = f1 j) := by
  unfold f_X5_copies
  refine ok_wl (fun i s => s.1 = nI i ∧ (∀ k, k < i → s.2 (c + k) = f0 (a + k)) ∧ ∀ j, (j < c ∨ c + i ≤ j) → s.2 j = f1 j) (fun o => (∀ k, k < 41 → o (c + k) = f0 (a + k)) ∧ ∀ j, (j < c ∨ c + 41 ≤ j) → o j = f1 j) 41 (by omega) ⟨rfl, fun k h => by omega, fun j _ => rfl⟩ ?_ ?_ (fun r hr => ok_u1 (ok_s hr))
  · rintro i ⟨l, w⟩ hi ⟨hl, hA, hB⟩
    dsimp only at hl hA hB
    subst hl
    refine ok_nle (a := 41) hi (by omega) (ok_rd (a + i) (nI_add a i) (by omega) h0 (ok_wr (c + i) (nI_add c i) (by omega) h1 (ok_s ⟨nI_1 i, fun k hk => ?_, fun j hj => ?_⟩)))
    · dsimp only
      by_cases e : k = i
      · subst e; rw [pk_us]
      · rw [pk_un (by omega)]
        exact hA k (by omega)
    · dsimp only
      rw [pk_un (by omega)]
      exact hB j (by omega)
  · rintro ⟨l, w⟩ ⟨hl, hA, hB⟩
    dsimp only at hl hA hB
    subst hl
    refine ok_u2 ?_
    rw [if_pos (show (41 : Int32) ≤ nI 41 by decide)]
    exact ok_s ⟨hA, hB⟩
theorem nI_4 (b : Nat) : (4 : Int32) * nI b = nI (4 * b) := by rw [← pk_mul]; rfl
theorem nI_41 (b : Nat) : (4 : Int32) * nI b + 1 = nI (4 * b + 1) := by rw [nI_4, nI_1]
theorem nI_42 (b : Nat) : (4 : Int32) * nI b + 2 = nI (4 * b + 2) := by rw [nI_4]; exact nI_add _ 2
theorem nI_43 (b : Nat) : (4 : Int32) * nI b + 3 = nI (4 * b + 3) := by rw [nI_4]; exact nI_add _ 3
theorem rw_copy {s t P L M Y : Nat → Int32} {n : Nat} (hn : n ≤ 10) (h : rw4 s n P L M Y) (hc : ∀ k, k < 41 → t k = s k) : rw4 t n P L M Y := by
  refine ⟨by rw [hc 40 (by omega)]; exact h.1, fun b hb => ?_⟩
  rw [hc _ (by omega), hc _ (by omega), hc _ (by omega), hc _ (by omega)]
  exact h.2 b hb
def clL (L : Nat → Int32) (l : Int32) (b : Nat) : Int32 := L b &&& (((1 : Int32) <<< (l &&& 31)) ^^^ (-1))
def nTl (P L M Y : Nat → Int32) (n : Nat) (l : Int32) : Int32 := nI (fitN (eB P (clL L l) M Y) n) - nI (fitN (eB P L M Y) n)
theorem more_e {s P L M Y f2 f3 f4 : Nat → Int32} {n : Nat} {l : Int32} (hn : n ≤ 10) (h : rw4 s n P L M Y) : Ok (f_X5_more l s f2 f3 f4) (fun o => o.1 = nTl P L M Y n l) := by
  unfold f_X5_more
  refine ok_bd _ (copies_e (a := 0) (c := 0) (n0 := 41) (n1 := 41) (by omega) (by omega) (by decide) (by decide)) ?_
  rintro o2 ⟨hc, -⟩
  simp only [Nat.zero_add] at hc
  have h0 := rw_copy hn h hc
  refine ok_u1 ?_
  refine ok_wl (fun i s => s.1 = nI i ∧ rw4 s.2 n P (fun b => if b < i then clL L l b else L b) M Y) (fun r => rw4 r n P (clL L l) M Y) n (by omega) ⟨rfl, ?_⟩ ?_ ?_ ?_
  · refine ⟨h0.1, fun b hb => ?_⟩
    dsimp only
    rw [if_neg (Nat.not_lt_zero b)]
    exact h0.2 b hb
  · rintro i ⟨l', w⟩ hi ⟨hl, hw⟩
    dsimp only at hl hw
    subst hl
    refine ok_u2 (rd40 hw (ok_nle hi (by omega) (ok_rd (4 * i + 1) (nI_41 i) (by omega) (by decide) (ok_wr (4 * i + 1) (nI_41 i) (by omega) (by decide) (ok_s ⟨nI_1 i, ?_, fun b hb => ?_⟩)))))
    · dsimp only
      rw [pk_un (by omega)]
      exact hw.1
    · dsimp only
      have hb2 := hw.2 b hb
      have hi2 := (hw.2 i hi).2.1
      dsimp only at hb2 hi2
      rw [if_neg (Nat.lt_irrefl i)] at hi2
      by_cases e : b = i
      · subst e
        rw [pk_un (by omega), pk_us, pk_un (by omega), pk_un (by omega), hi2, if_pos (by omega)]
        exact ⟨hb2.1, rfl, hb2.2.2⟩
      · rw [pk_un (by omega), pk_un (by omega), pk_un (by omega), pk_un (by omega)]
        refine ⟨hb2.1, ?_, hb2.2.2⟩
        rw [hb2.2.1]
        by_cases z : b < i
        · rw [if_pos z, if_pos (by omega)]
        · rw [if_neg z, if_neg (by omega)]
  · rintro ⟨l', w⟩ ⟨hl, hw⟩
    dsimp only at hl hw
    subst hl
    refine ok_u2 (rd40 hw (ok_yle (Nat.le_refl _) (by omega) (ok_s ⟨hw.1, fun b hb => ?_⟩)))
    have hb2 := hw.2 b hb
    dsimp only at hb2
    rw [if_pos hb] at hb2
    exact hb2
  · intro w5 hw5
    refine ok_u1 (ok_bd _ (fits_e hn hw5) ?_)
    rintro ⟨r9, o10, o11⟩ ⟨e9, -⟩
    refine ok_u3 (ok_bd _ (fits_e hn h) ?_)
    rintro ⟨r12, o13, o14⟩ ⟨e12, -⟩
    refine ok_u3 (ok_s ?_)
    dsimp only at e9 e12
    rw [e9, e12]
    rfl
def nIy (P L M Y : Nat → Int32) (n b : Nat) (y w : Int32) : Int32 := if w = 0 then nI (fitN (eB P L M (upd Y b y)) n) else nI (dtdV (eB P L M (upd Y b y)) n (upd Y b y))
theorem yr_upd {n b : Nat} {M Y : Nat → Int32} {y : Int32} (hY : yrOk n M Y) (h : 1450 ≤ y ∧ y ≤ 1999) : yrOk n M (upd Y b y) := fun z hz => by
  refine ⟨(hY z hz).1, ?_⟩
  by_cases e : z = b
  · subst e; rw [pk_us]; exact Or.inr h
  · rw [pk_un e]; exact (hY z hz).2
theorem rw_year {s P L M Y : Nat → Int32} {n b : Nat} {y : Int32} (hn : n ≤ 10) (hb : b < n) (h : rw4 s n P L M Y) : rw4 (upd s (4 * b + 3) y) n P L M (upd Y b y) := by
  refine ⟨by rw [pk_un (by omega)]; exact h.1, fun z hz => ?_⟩
  have h2 := h.2 z hz
  rw [pk_un (by omega), pk_un (by omega), pk_un (by omega)]
  refine ⟨h2.1, h2.2.1, h2.2.2.1, ?_⟩
  by_cases e : z = b
  · subst e; rw [pk_us, pk_us]
  · rw [pk_un (by omega), pk_un e]; exact h2.2.2.2
theorem byYear_e {s P L M Y f2 f3 f4 f5 : Nat → Int32} {n b : Nat} {y w : Int32} (hn : n ≤ 10) (hb : b < n) (hY : yrOk n M Y) (hy : 1450 ≤ y ∧ y ≤ 1999) (h : rw4 s n P L M Y) : Ok (f_X5_byYear (nI b) y w s f2 f3 f4 f5) (fun o => o.1 = nIy P L M Y n b y w) := by
  unfold f_X5_byYear
  refine ok_bd _ (copies_e (a := 0) (c := 0) (n0 := 41) (n1 := 41) (by omega) (by omega) (by decide) (by decide)) ?_
  rintro o2 ⟨hc, -⟩
  simp only [Nat.zero_add] at hc
  have h0 := rw_copy hn h hc
  refine ok_u1 (ok_wr (4 * b + 3) (nI_43 b) (by omega) (by decide) (ok_jd ?_))
  have h1 := rw_year (y := y) hn hb h0
  unfold nIy
  by_cases q : w = 0
  · refine ok_t q (ok_bd _ (fits_e hn h1) ?_)
    rintro ⟨r, o13, o14⟩ ⟨hr, -⟩
    refine ok_u3 (ok_u4 (ok_s ?_))
    rw [if_pos q]
    exact hr
  · refine ok_f q (ok_bd _ (dated_e hn (yr_upd hY hy) h1) ?_)
    rintro ⟨r, o10, o11⟩ ⟨hr, -, hg⟩
    refine ok_u3 (ok_u4 (ok_s ?_))
    rw [if_neg q]
    dsimp only at hr hg ⊢
    rw [hr, dtdV, dtd_congr (fun b hb => yrV_of hg b hb)]
theorem dated2_e {s P L M Y f1 f2 : Nat → Int32} {n : Nat} (hn : n ≤ 10) (hY : yrOk n M Y) (h : rw4 s n P L M Y) : Ok (f_X5_dated f1 f2 41 s) (fun o => o.1 = nI (dtdV (eB P L M Y) n Y)) := by
  refine ok_mo (dated_e hn hY h) ?_
  rintro ⟨r, o10, o11⟩ ⟨hr, -, hg⟩
  dsimp only at hr hg ⊢
  rw [hr, dtdV, dtd_congr (fun b hb => yrV_of hg b hb)]
def shV (d n : Nat) : UInt64 := if n = 0 then FP.dconst1 else FP.ddiv (FP.i2d (nI d)) (FP.i2d (nI n))
theorem sh_nn : ∀ d, d < 11 → ∀ n, n < 11 → (shV d n) &&& 0x7fffffffffffffff ≤ 0x7ff0000000000000 := by decide +kernel
theorem share_e {s P L M Y f1 f2 : Nat → Int32} {n : Nat} (hn : n ≤ 10) (hY : yrOk n M Y) (h : rw4 s n P L M Y) : Ok (f_X5_share s f1 f2) (fun o => o.1 = shV (dtdV (eB P L M Y) n Y) n) := by
  unfold f_X5_share
  refine rd40 h (ok_jd ?_)
  have hd := dtd_le n (fyV (eB P L M Y) n Y) (lyV (eB P L M Y) n Y)
  by_cases q : n = 0
  · subst q
    exact ok_t rfl (ok_u3 (ok_s rfl))
  · refine ok_f (nI_ne0 (by omega) (by omega)) (ok_bd _ (dated2_e hn hY h) ?_)
    rintro ⟨r, o7, o8⟩ hr
    dsimp only at hr
    subst hr
    refine ok_u3 (rd40 h ?_)
    have hnn := sh_nn (dtdV (eB P L M Y) n Y) (by unfold dtdV; omega) n (by omega)
    unfold shV at hnn ⊢
    rw [if_neg q] at hnn ⊢
    unfold gN
    rw [if_pos hnn]
    exact ok_u3 (ok_s rfl)
theorem counted_e {s P L M Y f2 f3 f4 : Nat → Int32} {n : Nat} {w hs : Int32} (hn : n ≤ 10) (hY : yrOk n M Y) (h : rw4 s n P L M Y) (h0 : 0 ≤ w) : Ok (f_X5_counted w hs s f2 f3 f4) (fun o => o.1 = nAl (eB P L M Y) n P Y hs w) := by
  unfold f_X5_counted nAl
  by_cases c : w < 0 ∨ 6 < w
  · have c6 : (6 : Int32) < w := by
      rcases c with c | c
      · exact absurd c (Int32.not_lt.mpr h0)
      · exact c
    have hx : ∀ k : Int32, k ≤ 6 → ¬ w = k := fun k hk e => by
      subst e
      exact absurd c6 (Int32.not_lt.mpr hk)
    refine ok_t c (ok_be (having_e hn h) (ok_u1 (ok_s ?_)))
    dsimp only
    rw [if_neg (hx 0 (by decide)), if_neg (hx 1 (by decide)), if_neg (hx 2 (by decide)), if_neg (hx 3 (by decide)), if_neg (hx 4 (by decide)), if_neg (hx 5 (by decide)), if_neg (hx 6 (by decide)), havV, if_neg (hx 2 (by decide))]
  · refine ok_f c ?_
    have c1 : ¬ w < 0 := fun z => c (Or.inl z)
    have c2 : w ≤ nI 6 := Int32.not_lt.mp (fun z => c (Or.inr z))
    obtain ⟨k, hk, rfl⟩ := w_cases 6 h0 c2 (by decide)
    match k, hk with
    | 0, _ => exact ok_t rfl (rd40 h (ok_s rfl))
    | 1, _ =>
      refine ok_f (by decide) (ok_t rfl (ok_bd _ (dated2_e hn hY h) ?_))
      rintro ⟨r, o4, o5⟩ hr
      exact ok_u3 (ok_s hr)
    | 2, _ => exact ok_f (by decide) (ok_f (by decide) (ok_t rfl (ok_be (having_e hn h) (ok_u1 (ok_s rfl)))))
    | 3, _ =>
      refine ok_f (by decide) (ok_f (by decide) (ok_f (by decide) (ok_t rfl (ok_jd (ok_t rfl (ok_u1 (ok_be (pairs_e hn h) (ok_u1 (ok_s ?_)))))))))
      rfl
    | 4, _ =>
      refine ok_f (by decide) (ok_f (by decide) (ok_f (by decide) (ok_f (by decide) (ok_t rfl (ok_bd _ (fits_e hn h) ?_)))))
      rintro ⟨r, o4, o5⟩ ⟨hr, -⟩
      exact ok_u3 (ok_s hr)
    | 5, _ =>
      refine ok_f (by decide) (ok_f (by decide) (ok_f (by decide) (ok_f (by decide) (ok_f (by decide) (ok_t rfl (ok_jd (ok_f (by decide) (ok_u1 (ok_be (pairs_e hn h) (ok_u1 (ok_s ?_)))))))))))
      rfl
    | 6, _ => exact ok_f (by decide) (ok_f (by decide) (ok_f (by decide) (ok_f (by decide) (ok_f (by decide) (ok_f (by decide) (ok_t rfl (ok_s rfl)))))))
    | k + 7, hk => omega
