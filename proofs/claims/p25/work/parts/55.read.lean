/-! the class's reading of a shelf -/
def eB (P L M Y : Nat → Int32) (a b : Nat) : Bool := decide (a ≠ b) && decide (spBy P L M Y a b ≠ 0)
theorem eB_irr {P L M Y : Nat → Int32} (a : Nat) : eB P L M Y a a = false := by simp [eB]
def bfM (E : Nat → Nat → Bool) (n b : Nat) : Nat := msk (fun a => E a b) n
theorem bfM_bit {E : Nat → Nat → Bool} {n b i : Nat} : (bfM E n b).testBit i = (decide (i < n) && E i b) := msk_bit _ _ _
theorem bfM_lt (E : Nat → Nat → Bool) (n b : Nat) : bfM E n b < 2 ^ n := msk_lt _ _
def yrOk (n : Nat) (M Y : Nat → Int32) : Prop := ∀ b, b < n → -1 ≤ M b ∧ (Y b = -1 ∨ (1450 ≤ Y b ∧ Y b ≤ 1999))
theorem yr_m1 {y : Int32} (h : y = -1 ∨ (1450 ≤ y ∧ y ≤ 1999)) : -1 ≤ y := by
  rcases h with rfl | h
  · exact Int32.le_refl _
  · exact Int32.le_trans (by decide) h.1
theorem re_e {n : Nat} {P L M Y : Nat → Int32} (hn : n ≤ 10) (h : yrOk n M Y) {a b : Nat} (ha : a < n) (hb : b < n) : f_X2_reasonsAhead (nI a) (nI b) P L M Y = some (spBy P L M Y a b) := f_reasons_e (by omega) (by omega) (h a ha).1 (yr_m1 (h a ha).2)
theorem has_e {S k : Nat} (hS : S < 2 ^ 31) (hk : k < 32) : f_X1_has (nI S) (nI k) = some (if S.testBit k = true then 1 else 0) := by
  unfold f_X1_has
  simp only [jn, u1, gB]
  by_cases h : S.testBit k = true
  · rw [iN_t hS hk h, if_pos h]; simp
  · rw [iN_f hS hk (by simpa using h), if_neg h]; simp
theorem nI_ne {a b : Nat} (h : a ≠ b) (ha : a < 2 ^ 31) (hb : b < 2 ^ 31) : ¬ nI a = nI b := fun e => h ((nI_eq ha hb).mp e)
/-- one side of one pair -/
theorem rp_side {n i j : Nat} {P L M Y : Nat → Int32} (hn : n ≤ 10) (hj : j < n) (hi : i < n) {r : Int32} {E : Nat → Nat → Bool} {q : Nat → Bool} {w : Nat → Int32} {R : Nat → Int32} {τ : Type} {Rr : τ → Prop} {K : (Nat → Int32) → Option τ}
    (hw : w i = nI (msk q j)) (hr : q j = (decide (j ≠ i) && decide (r ≠ 0))) (hK : ∀ v : Nat → Int32, (∀ b, b ≠ i → v b = w b) → v i = nI (msk q (j + 1)) → Ok (K v) Rr) {x : Option Int32} (hx : j ≠ i → x = some r) :
    Ok (if nI j = nI i then K w else x.bind (u1 fun (r17 : Int32) => (if r17 = 0 then K w else (rdA w 10 (nI i)).bind (fun v18 => (wrA w 10 (nI i) (v18 ||| ((1 : Int32) <<< (nI j &&& 31)))).bind (fun g19 => K g19))))) Rr := by
  have hz : q j = false → Ok (K w) Rr := fun h => hK w (fun _ _ => rfl) (by rw [hw, msk, h]; simp)
  by_cases e : j = i
  · subst e
    refine ok_t rfl (hz (by rw [hr]; simp))
  · refine ok_f (nI_ne e (by omega) (by omega)) (ok_be (hx e) ?_)
    show Ok (if r = 0 then _ else _) _
    by_cases hr0 : r = 0
    · exact ok_t hr0 (hz (by rw [hr]; simp [hr0]))
    · refine ok_f hr0 (ok_rd i rfl (by omega) (by decide) (ok_wr i rfl (by omega) (by decide) (hK _ (fun b hb => pk_un hb) ?_)))
      rw [pk_us, hw, iN_shl j (by omega), iN_or, msk, show q j = true by rw [hr]; simp [e, hr0]]
      rfl
theorem readPairs_e {n : Nat} {P L M Y f1 f2 : Nat → Int32} (hn : n ≤ 10) (h : yrOk n M Y) : Ok (f_X1_readPairs (nI n) f1 f2 P L M Y) (fun o => ∀ b, b < n → o.1 b = nI (bfM (eB P L M Y) n b) ∧ o.2 b = nI (bfM (tr (eB P L M Y)) n b)) := by
  unfold f_X1_readPairs
  refine ok_wl (fun i s => s.1 = nI i ∧ ∀ b, b < i → s.2.1 b = nI (bfM (eB P L M Y) n b) ∧ s.2.2 b = nI (bfM (tr (eB P L M Y)) n b)) (fun r => ∀ b, b < n → r.1 b = nI (bfM (eB P L M Y) n b) ∧ r.2 b = nI (bfM (tr (eB P L M Y)) n b)) n (by omega) ⟨rfl, fun b h => by omega⟩ ?_ ?_ ?_
  · rintro i ⟨l, w2, w3⟩ hi ⟨hl, hw⟩
    dsimp only at hl hw
    subst hl
    refine ok_nle hi (by omega) (ok_wr i rfl (by omega) (by decide) (ok_wr i rfl (by omega) (by decide) ?_))
    refine ok_wl (fun j s => s.1 = nI j ∧ (∀ b, b < i → s.2.1 b = nI (bfM (eB P L M Y) n b) ∧ s.2.2 b = nI (bfM (tr (eB P L M Y)) n b)) ∧ s.2.1 i = nI (msk (fun a => eB P L M Y a i) j) ∧ s.2.2 i = nI (msk (fun a => eB P L M Y i a) j))
      (fun r => ∀ b, b < i + 1 → r.1 b = nI (bfM (eB P L M Y) n b) ∧ r.2 b = nI (bfM (tr (eB P L M Y)) n b)) n (by omega) ⟨rfl, fun b hb => ?_, ?_, ?_⟩ ?_ ?_ ?_
    · dsimp only
      rw [pk_un (by omega), pk_un (by omega)]
      exact hw b hb
    · dsimp only
      rw [pk_us]; rfl
    · dsimp only
      rw [pk_us]; rfl
    · rintro j ⟨l, w9, w10⟩ hj ⟨hl, hA, hB, hC⟩
      dsimp only at hl hA hB hC
      subst hl
      refine ok_nle hj (by omega) ?_
      refine ok_jn (fun v => (∀ b, b ≠ i → v b = w9 b) ∧ v i = nI (msk (fun a => eB P L M Y a i) (j + 1))) ?_ ?_
      · intro w13 hv
        dsimp only [u1]
        refine ok_jn (fun v => (∀ b, b ≠ i → v b = w10 b) ∧ v i = nI (msk (fun a => eB P L M Y i a) (j + 1))) ?_ ?_
        · intro w15 hv2
          refine ok_s ⟨?_, fun b hb => ?_, ?_, ?_⟩
          · exact nI_1 j
          · dsimp only
            rw [hv.1 b (by omega), hv2.1 b (by omega)]
            exact hA b hb
          · exact hv.2
          · exact hv2.2
        · intro K hK
          exact rp_side (P := P) (L := L) (M := M) (Y := Y) (E := eB P L M Y) (R := w10) hn hj hi (r := spBy P L M Y i j) hC (by show (decide (i ≠ j) && _) = _; rw [show decide (i ≠ j) = decide (j ≠ i) from decide_eq_decide.mpr ⟨Ne.symm, Ne.symm⟩]) (fun v h1 h2 => hK v ⟨h1, h2⟩) (fun _ => re_e hn h hi hj)
      · intro K hK
        exact rp_side (P := P) (L := L) (M := M) (Y := Y) (E := eB P L M Y) (R := w10) hn hj hi (r := spBy P L M Y j i) hB (by simp [eB]) (fun v h1 h2 => hK v ⟨h1, h2⟩) (fun _ => re_e hn h hj hi)
    · rintro ⟨l, w9, w10⟩ ⟨hl, hA, hB, hC⟩
      dsimp only at hl hA hB hC
      subst hl
      refine ok_yle (Nat.le_refl _) (by omega) (ok_s (fun b hb => ?_))
      by_cases e : b = i
      · subst e
        exact ⟨hB, hC⟩
      · exact hA b (by omega)
    · rintro ⟨w11, w12⟩ hr
      exact ok_s ⟨nI_1 i, hr⟩
  · rintro ⟨l, w2, w3⟩ ⟨hl, hw⟩
    dsimp only at hl hw
    subst hl
    exact ok_yle (Nat.le_refl _) (by omega) (ok_s hw)
  · rintro ⟨w4, w5⟩ hr
    exact ok_s hr
/-- one book, one middle -/
theorem wn_side {n m j : Nat} (hn : n ≤ 10) (hm : m < n) (hj : j < n) {R : Nat → Nat} (hR : ∀ b, b < n → R b < 2 ^ n) {w : Nat → Int32} (hw : ∀ b, b < n → w b = nI (if b < j then wNext m R b else R b)) {τ : Type} {Rr : τ → Prop} {K : (Nat → Int32) → Option τ}
    (hK : ∀ v : Nat → Int32, (∀ b, b < n → v b = nI (if b < j + 1 then wNext m R b else R b)) → Ok (K v) Rr) :
    Ok ((rdA w 10 (nI j)).bind (fun v20 => (f_X1_has v20 (nI m)).bind (u1 fun (r21 : Int32) => (if r21 = 0 then K w else (rdA w 10 (nI j)).bind (fun v31 => (rdA w 10 (nI m)).bind (fun v32 => (wrA w 10 (nI j) (v31 ||| v32)).bind (fun g33 => K g33))))))) Rr := by
  have hwj : w j = nI (R j) := by rw [hw j hj, if_neg (Nat.lt_irrefl j)]
  have hwm : w m = nI (R m) := by
    rw [hw m hm]
    split
    · rw [wNext_m]
    · rfl
  refine ok_rd j rfl (by omega) (by decide) ?_
  rw [hwj]
  refine ok_be (has_e (m10 hn (hR j hj)) (by omega)) ?_
  dsimp only [u1]
  by_cases q : (R j).testBit m = true
  · rw [if_pos q]
    refine ok_f (by decide) (ok_rd j rfl (by omega) (by decide) (ok_rd m rfl (by omega) (by decide) (ok_wr j rfl (by omega) (by decide) (hK _ (fun b hb => ?_)))))
    by_cases e : b = j
    · subst e
      rw [pk_us, hwj, hwm, iN_or, if_pos (by omega), wNext, if_pos q]
    · rw [pk_un e, hw b hb]
      by_cases z : b < j
      · rw [if_pos z, if_pos (by omega)]
      · rw [if_neg z, if_neg (by omega)]
  · rw [if_neg q]
    refine ok_t rfl (hK w (fun b hb => ?_))
    by_cases e : b = j
    · subst e
      rw [hwj, if_pos (by omega), wNext, if_neg q]
    · rw [hw b hb]
      by_cases z : b < j
      · rw [if_pos z, if_pos (by omega)]
      · rw [if_neg z, if_neg (by omega)]
theorem followPairs_e {n : Nat} {E : Nat → Nat → Bool} {any : Int32} {f1 f2 f3 f4 : Nat → Int32} (hn : n ≤ 10) (h : ∀ b, b < n → f1 b = nI (bfM E n b) ∧ f2 b = nI (bfM (tr E) n b)) :
    Ok (f_X1_followPairs any (nI n) f1 f2 f3 f4) (fun o => ∃ A B : Nat → Nat, isCl E n A ∧ isCl (tr E) n B ∧ (∀ b, b < n → o.2.1 b = nI (A b) ∧ o.2.2 b = nI (B b)) ∧ (cyc n A ∧ o.1 = 0 ∨ ¬ cyc n A ∧ o.1 = 1)) := by
  unfold f_X1_followPairs
  refine ok_wl (fun i s => s.1 = nI i ∧ ∀ b, b < i → s.2.1 b = nI (bfM E n b) ∧ s.2.2 b = nI (bfM (tr E) n b)) (fun r => ∀ b, b < n → r.1 b = nI (bfM E n b) ∧ r.2 b = nI (bfM (tr E) n b)) n (by omega) ⟨rfl, fun b h => by omega⟩ ?_ ?_ ?_
  · rintro i ⟨l, w2, w3⟩ hi ⟨hl, hw⟩
    dsimp only at hl hw
    subst hl
    refine ok_nle hi (by omega) (ok_rd i rfl (by omega) (by decide) (ok_wr i rfl (by omega) (by decide) (ok_rd i rfl (by omega) (by decide) (ok_wr i rfl (by omega) (by decide) (ok_s ⟨nI_1 i, fun b hb => ?_⟩)))))
    dsimp only
    by_cases e : b = i
    · subst e
      rw [pk_us, pk_us]
      exact h b hi
    · rw [pk_un e, pk_un e]
      exact hw b (by omega)
  · rintro ⟨l, w2, w3⟩ ⟨hl, hw⟩
    dsimp only at hl hw
    subst hl
    exact ok_yle (Nat.le_refl _) (by omega) (ok_s hw)
  · rintro ⟨w4, w5⟩ h45
    dsimp only [u2]
    refine ok_wl (fun m s => s.1 = nI m ∧ ∃ R R' : Nat → Nat, wInv E n m R ∧ wInv (tr E) n m R' ∧ ∀ b, b < n → s.2.1 b = nI (R b) ∧ s.2.2 b = nI (R' b)) (fun r => ∃ A B : Nat → Nat, isCl E n A ∧ isCl (tr E) n B ∧ ∀ b, b < n → r.1 b = nI (A b) ∧ r.2 b = nI (B b)) n (by omega) ⟨rfl, _, _, wInv_0, wInv_0, h45⟩ ?_ ?_ ?_
    · rintro m ⟨l, w11, w12⟩ hm ⟨hl, R, R', hR, hR', hw⟩
      dsimp only at hl hw
      subst hl
      refine ok_nle hm (by omega) ?_
      refine ok_wl (fun j s => s.1 = nI j ∧ (∀ b, b < n → s.2.1 b = nI (if b < j then wNext m R b else R b)) ∧ ∀ b, b < n → s.2.2 b = nI (if b < j then wNext m R' b else R' b))
        (fun r => ∀ b, b < n → r.1 b = nI (wNext m R b) ∧ r.2 b = nI (wNext m R' b)) n (by omega) ⟨rfl, fun b hb => ?_, fun b hb => ?_⟩ ?_ ?_ ?_
      · rw [if_neg (Nat.not_lt_zero b)]
        exact (hw b hb).1
      · rw [if_neg (Nat.not_lt_zero b)]
        exact (hw b hb).2
      · rintro j ⟨l, w16, w17⟩ hj ⟨hl, hA, hB⟩
        dsimp only at hl hA hB
        subst hl
        refine ok_nle hj (by omega) ?_
        refine wn_side hn hm hj hR.1 hA (K := fun w22 => (rdA w17 10 (nI j)).bind (fun v24 => (f_X1_has v24 (nI m)).bind (u1 fun (r25 : Int32) => (jn (u1 fun (w26 : Nat → Int32) => some (Sum.inl ((nI j + 1), w22, w26))) (fun K27 => (if r25 = 0 then K27 w17 else (rdA w17 10 (nI j)).bind (fun v28 => (rdA w17 10 (nI m)).bind (fun v29 => (wrA w17 10 (nI j) (v28 ||| v29)).bind (fun g30 => K27 g30)))))))))
          (fun v hv => wn_side hn hm hj hR'.1 hB (K := fun w26 => some (Sum.inl ((nI j + 1), v, w26))) (fun v' hv' => ok_s ⟨nI_1 j, hv, hv'⟩))
      · rintro ⟨l, w16, w17⟩ ⟨hl, hA, hB⟩
        dsimp only at hl hA hB
        subst hl
        refine ok_yle (Nat.le_refl _) (by omega) (ok_s (fun b hb => ?_))
        have h1 := hA b hb
        have h2 := hB b hb
        rw [if_pos hb] at h1 h2
        exact ⟨h1, h2⟩
      · rintro ⟨w18, w19⟩ hr
        exact ok_s ⟨nI_1 m, _, _, wInv_s hm hR, wInv_s hm hR', hr⟩
    · rintro ⟨l, w11, w12⟩ ⟨hl, R, R', hR, hR', hw⟩
      dsimp only at hl hw
      subst hl
      exact ok_yle (Nat.le_refl _) (by omega) (ok_s ⟨R, R', wInv_n hR, wInv_n hR', hw⟩)
    · rintro ⟨w13, w14⟩ ⟨A, B, hA, hB, hw⟩
      dsimp only [u2]
      dsimp only at hw
      refine ok_wl (fun i s => s.1 = nI i ∧ ((∃ b, b < i ∧ (A b).testBit b = true) ∧ s.2 = 0 ∨ (¬ ∃ b, b < i ∧ (A b).testBit b = true) ∧ s.2 = 1)) (fun r => cyc n A ∧ r = 0 ∨ ¬ cyc n A ∧ r = 1) n (by omega) ⟨rfl, Or.inr ⟨fun ⟨b, hb, _⟩ => by omega, rfl⟩⟩ ?_ ?_ ?_
      · rintro i ⟨l, w⟩ hi ⟨hl, hv⟩
        dsimp only at hl hv
        subst hl
        refine ok_nle hi (by omega) (ok_rd i rfl (by omega) (by decide) ?_)
        rw [(hw i hi).1]
        refine ok_be (has_e (m10 hn (hA.1 i hi)) (by omega)) ?_
        dsimp only [u1, jn]
        by_cases q : (A i).testBit i = true
        · rw [if_pos q]
          refine ok_f (by decide) (ok_s ⟨nI_1 i, Or.inl ⟨⟨i, by omega, q⟩, rfl⟩⟩)
        · rw [if_neg q]
          refine ok_t rfl (ok_s ⟨nI_1 i, ?_⟩)
          rcases hv with ⟨⟨b, hb, hbb⟩, hv⟩ | ⟨hno, hv⟩
          · exact Or.inl ⟨⟨b, by omega, hbb⟩, hv⟩
          · refine Or.inr ⟨fun ⟨b, hb, hbb⟩ => ?_, hv⟩
            by_cases e : b = i
            · subst e; exact q hbb
            · exact hno ⟨b, by omega, hbb⟩
      · rintro ⟨l, w⟩ ⟨hl, hv⟩
        dsimp only at hl hv
        subst hl
        exact ok_yle (Nat.le_refl _) (by omega) (ok_s hv)
      · rintro r hr
        exact ok_s ⟨A, B, hA, hB, hw, hr⟩
