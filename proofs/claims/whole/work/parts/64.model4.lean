/-! the reference: first order, places, books left out (the family 'Int32 by its bits' is the kit's, for pasting) -/
def bt (x : Int32) (i : Nat) : Bool := x.toBitVec.getLsbD i
theorem b_ext {x y : Int32} (h : ∀ i, i < 32 → bt x i = bt y i) : x = y := Int32.toBitVec_inj.mp (BitVec.eq_of_getLsbD_eq (fun i hi => h i hi))
theorem b_and (x y : Int32) (i : Nat) : bt (x &&& y) i = (bt x i && bt y i) := by unfold bt; rw [Int32.toBitVec_and, BitVec.getLsbD_and]
theorem b_0 (i : Nat) : bt 0 i = false := BitVec.getLsbD_zero
theorem b_sshr (n : Nat) (hn : n < 32) (x : Int32) {i : Nat} (hi : i < 32) : bt (x >>> (nI n &&& 31)) i = if n + i < 32 then bt x (n + i) else bt x 31 := by
  unfold bt
  rw [Int32.toBitVec_shiftRight]
  show (x.toBitVec.sshiftRight ((nI n &&& 31).toBitVec.smod 32).toNat).getLsbD i = _
  rw [iN_sm n hn, BitVec.getLsbD_sshiftRight, BitVec.msb_eq_getLsbD_last]
  simp [hi]
theorem b_1 : ∀ i, i < 32 → bt 1 i = decide (i = 0) := by decide +kernel
theorem bt_nI (S : Nat) {k : Nat} (hk : k < 32) : bt (nI S) k = S.testBit k := by
  unfold bt
  show (BitVec.ofNat 32 S).getLsbD k = _
  rw [BitVec.getLsbD_ofNat]
  simp [hk]
theorem iN_g {S k : Nat} (hk : k < 32) : ((nI S >>> (nI k &&& 31)) &&& 1) = 0 ↔ S.testBit k = false := by
  constructor
  · intro h
    have h1 := congrArg (fun x => bt x 0) h
    rw [b_and, b_sshr k hk _ (by decide), if_pos (by omega), b_1 0 (by decide), b_0] at h1
    rw [Nat.add_zero, bt_nI S hk] at h1
    simpa using h1
  · intro h
    apply b_ext
    intro i hi
    rw [b_and, b_0, b_1 i hi]
    by_cases e : i = 0
    · subst e
      rw [b_sshr k hk _ (by decide), if_pos (by omega), Nat.add_zero, bt_nI S hk, h]
      rfl
    · simp [e]
theorem i_m1 (x : Int32) : x + (-1) = x - 1 := by rw [Int32.sub_eq_add_neg]
theorem dn_s {n i : Nat} (h : i < n) : nI (n - i) - 1 = nI (n - 1 - i) ∧ nI (n - 1 - i) + (-1) = nI (n - (i + 1)) - 1 := by
  refine ⟨?_, ?_⟩
  · rw [iN_1, pk_sub (by omega)]
    congr 1
    omega
  · rw [i_m1, show n - (i + 1) = n - 1 - i by omega]
theorem dn_e : nI 0 - 1 < 0 := by decide
theorem lwS {E : Nat → Nat → Bool} {n S : Nat} (hn : n ≤ 10) : nI S ||| ((1 : Int32) <<< (lw E n S &&& 31)) = nI (S ||| 2 ^ lwi (lw E n S)) := by
  rcases lw_low E n S with ⟨z, -⟩ | ⟨b, -, hb, e, -, -⟩
  · rw [z, show (1 : Int32) <<< ((-1 : Int32) &&& 31) = nI (2 ^ 31) by decide +kernel, iN_or]
    rfl
  · rw [e, lwi_nI (by omega), iN_shl b (by omega), iN_or]
theorem ordered_e {s P L M Y f2 f3 : Nat → Int32} {n : Nat} {p : Int32} (hn : n ≤ 10) (hp : 0 ≤ p) (h : rw4 s n P L M Y) : Ok (f_X5_ordered p s f2 f3) (fun o => o.1 = ordV (eB P L M Y) n p) := by
  unfold f_X5_ordered
  refine rd40 h (ok_jd ?_)
  by_cases hpn : nI n ≤ p
  · refine ok_t hpn (ok_u2 (ok_s ?_))
    unfold ordV
    rw [if_pos (Or.inr hpn)]
  · refine ok_f hpn (ok_bd _ (fits_e hn h) ?_)
    rintro ⟨r5, o6, o7⟩ ⟨hr, hly⟩
    dsimp only at hr hly
    subst hr
    refine ok_u3 ?_
    have hbd := ct_bd (eB P L M Y) hn (full_lt n)
    by_cases q : fitN (eB P L M Y) n = 0
    · refine ok_t (by rw [q]; rfl) (ok_u2 (ok_s ?_))
      unfold ordV
      rw [if_pos (Or.inl q)]
    · refine ok_f (fun z => q ((iN_z0 (by unfold fitN; omega)).mp z)) ?_
      obtain ⟨k, hk, rfl⟩ := nI_of (Int32.not_lt.mpr hp)
      have hkn : k < n := by
        rcases Nat.lt_or_ge k n with z | z
        · exact z
        · exact absurd (nI_le z hk) hpn
      have hneg : ¬ (fitN (eB P L M Y) n = 0 ∨ nI n ≤ nI k) := fun z => by
        rcases z with z | z
        · exact q z
        · exact hpn z
      unfold ordV
      rw [if_neg hneg, nI_clamp hk]
      refine ok_wl (fun i s => s.2.2 = nI i ∧ s.1 = nI (sq (eB P L M Y) n i) ∧ (0 < i → s.2.1 = lw (eB P L M Y) n (sq (eB P L M Y) n (i - 1)))) (fun r => r = lw (eB P L M Y) n (sq (eB P L M Y) n k)) (k + 1) (by omega) ⟨rfl, rfl, fun z => by omega⟩ ?_ ?_ (fun r hr => ok_s hr)
      · rintro i ⟨l2, l3, l4⟩ hi ⟨e1, e2, e3⟩
        dsimp only at e1 e2 e3
        subst e1 e2
        refine ok_u3 (ok_f (nI_nlt (by omega) (by omega)) (rd40 h ?_))
        refine ok_wl (fun j s => s.2 = nI (n - j) - 1 ∧ s.1 = lwD (fre (eB P L M Y) n (sq (eB P L M Y) n i)) n j) (fun r => r = lw (eB P L M Y) n (sq (eB P L M Y) n i)) n (by omega) ⟨rfl, rfl⟩ ?_ ?_ ?_
        · rintro j ⟨l, l5⟩ hj ⟨e4, e5⟩
          dsimp only at e4 e5
          obtain ⟨d1, d2⟩ := dn_s hj
          rw [d1] at e4
          subst e4 e5
          refine ok_u2 (ok_f (nI_pos (by omega)) ?_)
          have hb : n - 1 - j < n := by omega
          have hno : fre (eB P L M Y) n (sq (eB P L M Y) n i) (n - 1 - j) = false → Ok (some (Sum.inl (lwD (fre (eB P L M Y) n (sq (eB P L M Y) n i)) n j, nI (n - 1 - j) + (-1))) : Option ((Int32 × Int32) ⊕ Int32)) (Sum.elim (fun s => s.2 = nI (n - (j + 1)) - 1 ∧ s.1 = lwD (fre (eB P L M Y) n (sq (eB P L M Y) n i)) n (j + 1)) (fun r => r = lw (eB P L M Y) n (sq (eB P L M Y) n i))) := fun z => ok_s ⟨d2, by
            dsimp only
            rw [lwD, if_neg (by rw [z]; simp)]⟩
          dsimp only [jn, u0, u1]
          by_cases q1 : (sq (eB P L M Y) n i).testBit (n - 1 - j) = true
          · refine ok_f (fun z => ?_) (hno ?_)
            · rw [(iN_g (by omega)).mp z] at q1
              cases q1
            · cases z : fre (eB P L M Y) n (sq (eB P L M Y) n i) (n - 1 - j) with
              | false => rfl
              | true => rw [(fre_iff.mp z).1] at q1; cases q1
          · have q2 : (sq (eB P L M Y) n i).testBit (n - 1 - j) = false := by simpa using q1
            refine ok_t ((iN_g (by omega)).mpr q2) (ok_rd (n - 1 - j) rfl (by omega) (by decide) ?_)
            rw [hly.1 _ hb]
            have hd := iN_sub (A := bfM (eB P L M Y) n (n - 1 - j)) (S := sq (eB P L M Y) n i) (m10 hn (bfM_lt _ n _))
            have hf : fre (eB P L M Y) n (sq (eB P L M Y) n i) (n - 1 - j) = true ↔ nI (bfM (eB P L M Y) n (n - 1 - j)) &&& (nI (sq (eB P L M Y) n i) ^^^ (-1)) = 0 := by
              rw [fre_iff, hd]
              constructor
              · rintro ⟨-, h2⟩ z hz
                rw [bfM_bit, Bool.and_eq_true, decide_eq_true_iff] at hz
                exact h2 z hz.1 hz.2
              · intro h2
                exact ⟨q2, fun z hz hE => h2 z (by rw [bfM_bit]; simp [hz, hE])⟩
            by_cases c : nI (bfM (eB P L M Y) n (n - 1 - j)) &&& (nI (sq (eB P L M Y) n i) ^^^ (-1)) = 0
            · refine ok_t c (ok_s ⟨d2, ?_⟩)
              dsimp only
              rw [lwD, if_pos (hf.mpr c)]
            · refine ok_f c (hno ?_)
              cases z : fre (eB P L M Y) n (sq (eB P L M Y) n i) (n - 1 - j) with
              | false => rfl
              | true => exact absurd (hf.mp z) c
        · rintro ⟨l, l5⟩ ⟨e4, e5⟩
          dsimp only at e4 e5
          rw [Nat.sub_self] at e4
          subst e4 e5
          exact ok_u2 (ok_t dn_e (ok_s rfl))
        · rintro r rfl
          refine ok_u1 (ok_s ⟨nI_1 i, ?_, fun _ => rfl⟩)
          exact lwS hn
      · rintro ⟨l2, l3, l4⟩ ⟨e1, e2, e3⟩
        dsimp only at e1 e2 e3
        subst e1 e2
        have e4 := e3 (by omega)
        rw [Nat.add_sub_cancel] at e4
        subst e4
        exact ok_u3 (ok_t (nI_lt (by omega) (by omega)) (ok_s rfl))
theorem allBefore_e {s P L M Y bef : Nat → Int32} {E : Nat → Nat → Bool} {n b : Nat} (hn : n ≤ 10) (h : rw4 s n P L M Y) (hb : b < n) (hbef : ∀ b, b < n → bef b = nI (bfM E n b)) : f_X5_allBefore (nI b) s bef = some (nI (clo E n b)) := by
  have key : Ok (f_X5_allBefore (nI b) s bef) (fun r => r = nI (clo E n b)) := by
    unfold f_X5_allBefore
    refine ok_rd b rfl (by omega) (by decide) ?_
    rw [hbef b hb]
    refine ok_wl (fun r s => s.2 = nI r ∧ ∃ S, s.1 = nI S ∧ rInv E n b r S) (fun r => r = nI (clo E n b)) 10 (by omega) ⟨rfl, _, rfl, rInv_0⟩ ?_ ?_ (fun r hr => ok_s hr)
    · rintro r ⟨l2, l⟩ hr ⟨hl, S, hS, hI⟩
      dsimp only at hl hS
      subst hl hS
      refine ok_nle (a := 10) hr (by omega) ?_
      refine ok_wl (fun k s => s.2 = nI k ∧ ∃ T, s.1 = nI T ∧ T < 2 ^ n ∧ (∀ i, S.testBit i = true → T.testBit i = true) ∧ (∀ U, upC E n U → (∀ i, i < n → S.testBit i = true → U.testBit i = true) → ∀ i, i < n → T.testBit i = true → U.testBit i = true) ∧ ∀ o z, o < n → z < k → E o z = true → S.testBit z = true → T.testBit o = true)
        (fun v => ∃ T, v = nI T ∧ rInv E n b (r + 1) T) n (by omega) ⟨rfl, S, rfl, hI.1, fun _ q => q, fun _ _ q => q, fun o z _ hz => by omega⟩ ?_ ?_ ?_
      · rintro k ⟨l2, l⟩ hk ⟨hl, T, hT, h1, h2, h3, h4⟩
        dsimp only at hl hT
        subst hl hT
        refine ok_u2 (rd40 h (ok_nle hk (by omega) (ok_jd ?_)))
        by_cases q : T.testBit k = true
        · refine ok_t (iN_t (m10 hn h1) (by omega) q) (ok_rd k rfl (by omega) (by decide) (ok_u1 (ok_s ⟨nI_1 k, T ||| bfM E n k, ?_, Nat.or_lt_two_pow h1 (bfM_lt _ _ _), fun i hi => ?_, fun U hU hSU i hi ht => ?_, fun o z ho hz hE hs => ?_⟩)))
          · dsimp only
            rw [hbef k hk, iN_or]
          · rw [Nat.testBit_or, h2 i hi]; rfl
          · rw [Nat.testBit_or, Bool.or_eq_true] at ht
            rcases ht with ht | ht
            · exact h3 U hU hSU i hi ht
            · rw [bfM_bit, Bool.and_eq_true] at ht
              exact hU i k hi hk ht.2 (h3 U hU hSU k hk q)
          · rw [Nat.testBit_or, Bool.or_eq_true]
            by_cases e : z = k
            · subst e
              right
              rw [bfM_bit]; simp [ho, hE]
            · exact Or.inl (h4 o z ho (by omega) hE hs)
        · refine ok_f (fun z => ?_) (ok_u1 (ok_s ⟨nI_1 k, T, ?_, h1, h2, h3, fun o z ho hz hE hs => ?_⟩))
          · rw [iN_f (m10 hn h1) (by omega) (by simpa using q)] at z
            cases z
          · dsimp only
            rw [iN_0, iN_or, Nat.or_zero]
          · by_cases e : z = k
            · subst e
              exact absurd (h2 z hs) q
            · exact h4 o z ho (by omega) hE hs
      · rintro ⟨l2, l⟩ ⟨hl, T, hT, h1, h2, h3, h4⟩
        dsimp only at hl hT
        subst hl hT
        exact ok_u2 (rd40 h (ok_yle (Nat.le_refl _) (by omega) (ok_s ⟨T, rfl, rInv_s hI h1 h2 h3 (fun o k ho hk hE hs => h4 o k ho hk hE hs)⟩)))
      · rintro v ⟨T, rfl, hT⟩
        exact ok_u1 (ok_s ⟨nI_1 r, T, rfl, hT⟩)
    · rintro ⟨l2, l⟩ ⟨hl, S, hS, hI⟩
      dsimp only at hl hS
      subst hl hS
      refine ok_u2 ?_
      rw [if_pos (show (10 : Int32) ≤ nI 10 by decide)]
      refine ok_s ?_
      show nI S = _
      rw [rInv_cl (clo_cl E n) hb hn hI]
  obtain ⟨r, h1, h2⟩ := key
  rw [h1, h2]
theorem cd_clo (E : Nat → Nat → Bool) {n b : Nat} (hb : b < n) : sm (fun k => if (clo E n k).testBit b = true then 1 else 0) n = cd n (clo (tr E) n b) := sm_congr (fun k hk => by
  rw [cl_tr (clo_cl E n) (clo_cl (tr E) n) b k hb hk])
theorem stands_e {s P L M Y f2 f3 : Nat → Int32} {n b : Nat} {w : Int32} (hn : n ≤ 10) (h : rw4 s n P L M Y) (hb : b < n) (hw : w = 0 ∨ w = 1 ∨ w = 2) : Ok (f_X5_stands (nI b) w s f2 f3) (fun o => o.1 = nPl (eB P L M Y) n b w) := by
  have h2 := p2_31 hn
  have h2' := Nat.two_pow_pos n
  unfold f_X5_stands
  refine ok_bd _ (fits_e hn h) ?_
  rintro ⟨r1, o2, o3⟩ ⟨hr, hly⟩
  dsimp only at hr hly
  subst hr
  refine ok_u3 ?_
  have hbd : fitN (eB P L M Y) n ≤ 3628800 := ct_bd (eB P L M Y) hn (full_lt n)
  by_cases w2 : w = 2
  · subst w2
    refine ok_t rfl ?_
    dsimp only [jn, u0, u1]
    have hn0 : ¬ (fitN (eB P L M Y) n ≠ 0 ∧ bfM (eB P L M Y) n b = 0) → Ok (some ((0 : Int32), o2, o3)) (fun o => o.1 = nPl (eB P L M Y) n b 2) := fun z => ok_s (by
      show (0 : Int32) = nI (if _ then _ else _)
      rw [if_neg z]; rfl)
    by_cases q : fitN (eB P L M Y) n = 0
    · refine ok_t (by rw [q]; exact Int32.le_refl _) (hn0 (fun z => z.1 q))
    · refine ok_f (nI_nle (by omega) (by omega)) (ok_rd b rfl (by omega) (by decide) ?_)
      rw [hly.1 b hb]
      by_cases z : bfM (eB P L M Y) n b = 0
      · refine ok_t (by rw [z]; rfl) (rd40 h ?_)
        have hbit : (2 ^ n - 1).testBit b = true := by rw [full_bit]; simp [hb]
        rw [iN_full (by omega)]
        refine ok_rd ((2 ^ n - 1) ^^^ 2 ^ b) (iN_rm (by omega) (by omega) hbit) (by have := rm_lt2 (full_lt n) hbit; omega) (by decide) (ok_s ?_)
        show _ = nI (if _ then _ else _)
        rw [hly.2 _ (rm_lt2 (full_lt n) hbit), if_pos ⟨q, z⟩]
      · exact ok_f (fun y => z ((iN_z0 (m10 hn (bfM_lt _ n b))).mp y)) (hn0 (fun y => z y.2))
  · refine ok_f w2 ?_
    refine ok_wl (fun i s => s.2 = nI i ∧ s.1 = nI (sm (fun k => if (clo (eB P L M Y) n k).testBit b = true then 1 else 0) i)) (fun r => r = nI (cd n (clo (tr (eB P L M Y)) n b))) n (by omega) ⟨rfl, rfl⟩ ?_ ?_ ?_
    · rintro i ⟨l4, l⟩ hi ⟨hl, hs⟩
      dsimp only at hl hs
      subst hl hs
      refine ok_u2 (rd40 h (ok_nle hi (by omega) (ok_be (allBefore_e hn h hi hly.1) (ok_u1 (ok_s ⟨nI_1 i, ?_⟩)))))
      dsimp only
      rw [sm]
      have hc := (clo_cl (eB P L M Y) n).1 i hi
      by_cases q : (clo (eB P L M Y) n i).testBit b = true
      · rw [iN_t (m10 hn hc) (by omega) q, if_pos q, nI_1]
      · rw [iN_f (m10 hn hc) (by omega) (by simpa using q), if_neg q, iN_0, nI_add]
    · rintro ⟨l4, l⟩ ⟨hl, hs⟩
      dsimp only at hl hs
      subst hl hs
      refine ok_u2 (rd40 h (ok_yle (Nat.le_refl _) (by omega) (ok_s ?_)))
      show nI _ = _
      rw [cd_clo (eB P L M Y) hb]
    · rintro r rfl
      refine ok_u1 ?_
      dsimp only [jn, u1]
      by_cases q : fitN (eB P L M Y) n = 0
      · refine ok_t (by rw [q]; rfl) (ok_s ?_)
        unfold nPl
        rcases hw with rfl | rfl | rfl
        · rw [if_pos rfl, if_pos q]
        · rw [if_neg (by decide), if_pos rfl, if_pos q]
        · exact absurd rfl w2
      · refine ok_f (fun y => q ((iN_z0 (by omega)).mp y)) ?_
        unfold nPl
        rcases hw with rfl | rfl | rfl
        · refine ok_t rfl (ok_be (allBefore_e hn h hb hly.1) (ok_be (on_e hn ((clo_cl _ n).1 b hb)) (ok_s ?_)))
          dsimp only
          rw [if_pos rfl, if_neg q]
        · refine ok_f (by decide) (rd40 h (ok_s ?_))
          dsimp only
          rw [if_neg (by decide), if_pos rfl, if_neg q]
        · exact absurd rfl w2
