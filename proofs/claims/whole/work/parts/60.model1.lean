/-! the reference's tables: who is ahead, orders of sets -/
/-- the books of a row of the reference: n of them, as P L M Y have them -/
def rw4 (s : Nat → Int32) (n : Nat) (P L M Y : Nat → Int32) : Prop := s 40 = nI n ∧ ∀ b, b < n → s (4 * b) = P b ∧ s (4 * b + 1) = L b ∧ s (4 * b + 2) = M b ∧ s (4 * b + 3) = Y b
theorem by_m {s P L M Y : Nat → Int32} {n a b : Nat} (hn : n ≤ 10) (h : rw4 s n P L M Y) (ha : a < n) (hb : b < n) : f_X5_by (nI a) (nI b) 41 s = some (spBy P L M Y a b) := by
  rw [f_by_e (by omega) (by omega) (by decide)]
  obtain ⟨a0, a1, a2, a3⟩ := h.2 a ha
  obtain ⟨b0, b1, b2, b3⟩ := h.2 b hb
  unfold spBy
  simp only [a0, a1, a2, a3, b0, b1, b2, b3]
theorem rd40 {τ : Type} {s P L M Y : Nat → Int32} {n : Nat} (h : rw4 s n P L M Y) {k : Int32 → Option τ} {R : τ → Prop} (hk : Ok (k (nI n)) R) : Ok ((rdA s 41 40).bind k) R := by
  refine ok_rd 40 rfl (by decide) (by decide) ?_
  rw [h.1]
  exact hk
theorem laysAhead_e {s P L M Y f1 : Nat → Int32} {n : Nat} (hn : n ≤ 10) (h : rw4 s n P L M Y) : Ok (f_X5_laysAhead f1 41 s) (fun o => ∀ b, b < n → o b = nI (bfM (eB P L M Y) n b)) := by
  unfold f_X5_laysAhead
  refine ok_wl (fun i s => s.1 = nI i ∧ ∀ b, b < i → b < n → s.2 b = nI (bfM (eB P L M Y) n b)) (fun r => ∀ b, b < n → r b = nI (bfM (eB P L M Y) n b)) 10 (by omega) ⟨rfl, fun b h => by omega⟩ ?_ ?_ ?_
  · rintro i ⟨l, w⟩ hi ⟨hl, hw⟩
    dsimp only at hl hw
    subst hl
    refine ok_nle (a := 10) hi (by omega) (ok_wr i rfl hi (by decide) ?_)
    refine ok_bd (fun r => ∀ b, b < i + 1 → b < n → r b = nI (bfM (eB P L M Y) n b)) ?_ (fun r hr => ok_s ⟨nI_1 i, hr⟩)
    by_cases hin : i < n
    · have hid : ∀ x : Option (Nat → Int32), x = x.bind some := fun x => by cases x <;> rfl
      rw [hid (wl _ _ _)]
      refine ok_wl (fun j s => s.1 = nI j ∧ (∀ b, b < i → b < n → s.2 b = nI (bfM (eB P L M Y) n b)) ∧ s.2 i = nI (msk (fun a => eB P L M Y a i) j)) (fun r => ∀ b, b < i + 1 → b < n → r b = nI (bfM (eB P L M Y) n b)) n (by omega) ⟨rfl, fun b hb hbn => ?_, ?_⟩ ?_ ?_ (fun r hr => ok_s hr)
      · dsimp only
        rw [pk_un (by omega)]
        exact hw b hb hbn
      · dsimp only
        rw [pk_us]; rfl
      · rintro j ⟨l, w⟩ hj ⟨hl, hA, hB⟩
        dsimp only at hl hA hB
        subst hl
        dsimp only [u2]
        refine rd40 h (ok_nle hj (by omega) (rd40 h (ok_nle hin (by omega) (ok_rd i rfl (by omega) (by decide) ?_))))
        refine ok_jn (fun v => v = nI (if eB P L M Y j i = true then 2 ^ j else 0)) ?_ ?_
        · rintro v rfl
          dsimp only [u1]
          refine ok_wr i rfl (by omega) (by decide) (ok_s ⟨nI_1 j, fun b hb hbn => ?_, ?_⟩)
          · dsimp only
            rw [pk_un (by omega)]
            exact hA b hb hbn
          · dsimp only
            rw [pk_us, hB, iN_or]
            rfl
        · intro K hK
          dsimp only [jn, u0]
          by_cases e : j = i
          · subst e
            exact ok_t rfl (hK _ (by rw [eB_irr]; rfl))
          · refine ok_f (nI_ne e (by omega) (by omega)) (ok_be (by_m hn h hj hin) ?_)
            dsimp only [u1]
            by_cases q : spBy P L M Y j i = 0
            · exact ok_t q (hK _ (by simp [eB, q]; rfl))
            · exact ok_f q (hK _ (by rw [iN_shl j (by omega)]; simp [eB, q, e]))
      · rintro ⟨l, w⟩ ⟨hl, hA, hB⟩
        dsimp only at hl hA hB
        subst hl
        dsimp only [u2]
        refine rd40 h (ok_yle (Nat.le_refl _) (by omega) (ok_s (fun b hb hbn => ?_)))
        by_cases e : b = i
        · subst e; exact hB
        · exact hA b (by omega) hbn
    · have hfin : ∀ b, b < i + 1 → b < n → (upd w i 0) b = nI (bfM (eB P L M Y) n b) := fun b hb hbn => by
        rw [pk_un (by omega)]
        exact hw b (by omega) hbn
      refine ⟨upd w i 0, ?_, hfin⟩
      have e1 : rdA s 41 40 = some (nI n) := by
        have := rdA_nI (f := s) (n := 41) (k := 40) (by decide) (by decide)
        rw [h.1] at this
        exact this
      have e2 : nI n ≤ nI i := nI_le (by omega) (by omega)
      rw [wl]
      dsimp only [u2]
      rw [e1]
      dsimp only [Option.bind_some]
      rw [if_pos e2]
      by_cases q : nI n ≤ 0
      · rw [if_pos q]; rfl
      · rw [if_neg q]; rfl
  · rintro ⟨l, w⟩ ⟨hl, hw⟩
    dsimp only at hl hw
    subst hl
    dsimp only [u2]
    rw [if_pos (show (10 : Int32) ≤ nI 10 by decide)]
    exact ok_s (fun b hb => hw b (by omega) hb)
  · rintro r hr
    exact ok_s hr
theorem isLast_e {s P L M Y bef : Nat → Int32} {E : Nat → Nat → Bool} {n b S : Nat} (hn : n ≤ 10) (h : rw4 s n P L M Y) (hb : b < n) (hS : S < 2 ^ n) (hbef : ∀ b, b < n → bef b = nI (bfM E n b)) (hbS : S.testBit b = true) :
    f_X5_isLast (nI b) (nI S) bef 41 s = some (if fF (tr E) n S b = true then 1 else 0) := by
  have key : Ok (f_X5_isLast (nI b) (nI S) bef 41 s) (fun r => r = if fF (tr E) n S b = true then 1 else 0) := by
    unfold f_X5_isLast
    refine ok_wl (fun i s => s.2 = nI i ∧ (s.1 = 1 ∧ (∀ z, z < i → S.testBit z = true → E b z = false) ∨ s.1 = 0 ∧ ∃ z, z < n ∧ S.testBit z = true ∧ E b z = true))
      (fun r => (r = 1 ∧ (∀ z, z < n → S.testBit z = true → E b z = false)) ∨ (r = 0 ∧ ∃ z, z < n ∧ S.testBit z = true ∧ E b z = true)) n (by omega) ⟨rfl, Or.inl ⟨rfl, fun z hz => by omega⟩⟩ ?_ ?_ ?_
    · rintro i ⟨l4, l⟩ hi ⟨hl, hv⟩
      dsimp only at hl hv
      subst hl
      dsimp only [u2]
      refine rd40 h (ok_nle hi (by omega) ?_)
      rcases hv with ⟨rfl, hv⟩ | ⟨rfl, hv⟩
      · refine ok_f (by decide) ?_
        dsimp only [jn, u1, u0]
        have hgo : (S.testBit i = true → E b i = false) → Ok (some (Sum.inl ((1 : Int32), nI i + 1)) : Option ((Int32 × Int32) ⊕ Int32)) (Sum.elim (fun s => s.2 = nI (i + 1) ∧ (s.1 = 1 ∧ (∀ z, z < i + 1 → S.testBit z = true → E b z = false) ∨ s.1 = 0 ∧ ∃ z, z < n ∧ S.testBit z = true ∧ E b z = true)) (fun r => (r = 1 ∧ (∀ z, z < n → S.testBit z = true → E b z = false)) ∨ (r = 0 ∧ ∃ z, z < n ∧ S.testBit z = true ∧ E b z = true))) := fun q => ok_s ⟨nI_1 i, Or.inl ⟨rfl, fun z hz hs => by
          by_cases e : z = i
          · subst e; exact q hs
          · exact hv z (by omega) hs⟩⟩
        by_cases q : S.testBit i = true
        · refine ok_f (by rw [iN_t (m10 hn hS) (by omega) q]; decide) (ok_rd i rfl (by omega) (by decide) ?_)
          rw [hbef i hi]
          by_cases y : E b i = true
          · refine ok_f (by rw [iN_t (m10 hn (bfM_lt E n i)) (by omega) (by rw [bfM_bit]; simp [hb, y])]; decide) (ok_s ⟨nI_1 i, Or.inr ⟨rfl, i, hi, q, y⟩⟩)
          · have y' : E b i = false := by simpa using y
            exact ok_t (iN_f (m10 hn (bfM_lt E n i)) (by omega) (by rw [bfM_bit]; simp [y'])) (hgo (fun _ => y'))
        · exact ok_t (iN_f (m10 hn hS) (by omega) (by simpa using q)) (hgo (fun z => absurd z q))
      · exact ok_t rfl (ok_s (Or.inr ⟨rfl, hv⟩))
    · rintro ⟨l4, l⟩ ⟨hl, hv⟩
      dsimp only at hl hv
      subst hl
      dsimp only [u2]
      exact rd40 h (ok_yle (Nat.le_refl _) (by omega) (ok_s hv))
    · rintro r (⟨rfl, hr⟩ | ⟨rfl, z, hz, hs, hE⟩)
      · refine ok_gB (Or.inr rfl) (ok_s ?_)
        rw [if_pos (fF_iff.mpr ⟨hbS, hr⟩)]
      · refine ok_gB (Or.inl rfl) (ok_s ?_)
        rw [if_neg (fun q => by
          have := (fF_iff.mp q).2 z hz hs
          unfold tr at this
          rw [hE] at this
          cases this)]
  obtain ⟨r, h1, h2⟩ := key
  rw [h1, h2]
/-- the reference's tables, laid -/
def lyG (E : Nat → Nat → Bool) (n : Nat) (bef ways : Nat → Int32) : Prop := (∀ b, b < n → bef b = nI (bfM E n b)) ∧ ∀ S, S < 2 ^ n → ways S = nI (ct E n S)
theorem lays_e {s P L M Y f1 f2 : Nat → Int32} {n : Nat} (hn : n ≤ 10) (h : rw4 s n P L M Y) : Ok (f_X5_lays f1 f2 41 s) (fun o => lyG (eB P L M Y) n o.1 o.2) := by
  have h2 := p2_31 hn
  have h2' := Nat.two_pow_pos n
  unfold f_X5_lays
  refine ok_bd _ (laysAhead_e hn h) ?_
  intro o2 ho2
  dsimp only [u1]
  refine ok_wr 0 rfl (by omega) (by decide) ?_
  refine ok_wl (fun i s => s.1 = nI (i + 1) ∧ ∀ S, S < i + 1 → s.2 S = nI (ct (tr (eB P L M Y)) n S)) (fun r => ∀ S, S < 2 ^ n → r S = nI (ct (eB P L M Y) n S)) (2 ^ n - 1) (by omega) ⟨rfl, fun S hS => ?_⟩ ?_ ?_ (fun r hr => ok_s ⟨ho2, hr⟩)
  · have : S = 0 := by omega
    subst this
    dsimp only
    rw [pk_us]
    rfl
  · rintro i ⟨l, w3⟩ hi ⟨hl, hw⟩
    dsimp only at hl hw
    subst hl
    dsimp only [u2]
    refine rd40 h ?_
    rw [iN_shl n (by omega)]
    refine ok_nle (by omega) (by omega) ?_
    refine ok_wl (fun j s => s.2 = nI j ∧ s.1 = nI (sm (fun x => if fF (tr (eB P L M Y)) n (i + 1) x = true then ct (tr (eB P L M Y)) n ((i + 1) ^^^ 2 ^ x) else 0) j)) (fun r => r = nI (ct (tr (eB P L M Y)) n (i + 1))) n (by omega) ⟨rfl, rfl⟩ ?_ ?_ ?_
    · rintro j ⟨s', l⟩ hj ⟨hl, hs⟩
      dsimp only at hl hs
      subst hl hs
      dsimp only [u2]
      refine rd40 h (ok_nle hj (by omega) ?_)
      dsimp only [jn, u1, u0]
      have hno : ¬ fF (tr (eB P L M Y)) n (i + 1) j = true → Ok (some (Sum.inl (nI (sm (fun x => if fF (tr (eB P L M Y)) n (i + 1) x = true then ct (tr (eB P L M Y)) n ((i + 1) ^^^ 2 ^ x) else 0) j) + 0, nI j + 1)) : Option ((Int32 × Int32) ⊕ Int32)) (Sum.elim (fun s => s.2 = nI (j + 1) ∧ s.1 = nI (sm (fun x => if fF (tr (eB P L M Y)) n (i + 1) x = true then ct (tr (eB P L M Y)) n ((i + 1) ^^^ 2 ^ x) else 0) (j + 1))) (fun r => r = nI (ct (tr (eB P L M Y)) n (i + 1)))) := fun q => by
        refine ok_s ⟨nI_1 j, ?_⟩
        dsimp only
        rw [sm, if_neg q, iN_0, nI_add]
      by_cases q : (i + 1).testBit j = true
      · refine ok_t (iN_t (by omega) (by omega) q) (ok_be (isLast_e hn h hj (by omega) ho2 q) ?_)
        dsimp only [u1]
        by_cases y : fF (tr (eB P L M Y)) n (i + 1) j = true
        · have hlt := rm_lt q
          rw [if_pos y]
          refine ok_f (by decide) (ok_rd ((i + 1) ^^^ 2 ^ j) (iN_rm (by omega) (by omega) q) (by omega) (by decide) (ok_s ⟨nI_1 j, ?_⟩))
          dsimp only
          rw [hw _ hlt, nI_add, sm, if_pos y]
        · rw [if_neg y]
          exact ok_t rfl (hno y)
      · refine ok_f (by rw [iN_f (by omega) (by omega) (by simpa using q)]; decide) (hno (fun z => q (fF_iff.mp z).1))
    · rintro ⟨s', l⟩ ⟨hl, hs⟩
      dsimp only at hl hs
      subst hl hs
      dsimp only [u2]
      refine rd40 h (ok_yle (Nat.le_refl _) (by omega) (ok_s ?_))
      show nI _ = _
      rw [ct_s (tr (eB P L M Y)) n (by omega)]
    · rintro r hr
      dsimp only [u1]
      refine ok_wr (i + 1) rfl (by omega) (by decide) (ok_s ⟨nI_1 (i + 1), fun S hS => ?_⟩)
      dsimp only
      by_cases e : S = i + 1
      · subst e
        rw [pk_us, hr]
      · rw [pk_un e]
        exact hw S (by omega)
  · rintro ⟨l, w3⟩ ⟨hl, hw⟩
    dsimp only at hl hw
    subst hl
    dsimp only [u2]
    refine rd40 h ?_
    rw [iN_shl n (by omega)]
    refine ok_yle (by omega) (by omega) (ok_s (fun S hS => ?_))
    show w3 S = _
    rw [hw S (by omega), ct_tr (fun a => eB_irr a) n S S (Nat.le_refl S)]
theorem fits_e {s P L M Y f1 f2 : Nat → Int32} {n : Nat} (hn : n ≤ 10) (h : rw4 s n P L M Y) : Ok (f_X5_fits f1 f2 41 s) (fun o => o.1 = nI (fitN (eB P L M Y) n) ∧ lyG (eB P L M Y) n o.2.1 o.2.2) := by
  have h2 := p2_31 hn
  have h2' := Nat.two_pow_pos n
  unfold f_X5_fits
  refine ok_bd _ (lays_e hn h) ?_
  rintro ⟨o2, o3⟩ ho
  dsimp only [u2]
  refine rd40 h ?_
  rw [iN_full (by omega)]
  exact ok_rd (2 ^ n - 1) rfl (by omega) (by decide) (ok_s ⟨ho.2 _ (full_lt n), ho⟩)
