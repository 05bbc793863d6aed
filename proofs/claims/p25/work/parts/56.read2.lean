/-! first and last years; the table of orders -/
def isFst (Y : Nat → Int32) (U : Nat → Prop) (j : Nat) (v : Int32) : Prop := 1450 ≤ v ∧ (∀ o, o < j → U o → Y o ≠ -1 → Y o ≤ v) ∧ (v = 1450 ∨ ∃ o, o < j ∧ U o ∧ Y o ≠ -1 ∧ v = Y o)
def isLst (Y : Nat → Int32) (U : Nat → Prop) (j : Nat) (v : Int32) : Prop := v ≤ 1999 ∧ (∀ o, o < j → U o → Y o ≠ -1 → v ≤ Y o) ∧ (v = 1999 ∨ ∃ o, o < j ∧ U o ∧ Y o ≠ -1 ∧ v = Y o)
theorem i_le_of_lt {x y : Int32} (h : x < y) : x ≤ y := by
  rw [Int32.lt_iff_toInt_lt] at h
  rw [Int32.le_iff_toInt_le]
  omega
theorem isFst_skip {Y : Nat → Int32} {U : Nat → Prop} {j : Nat} {v : Int32} (h : isFst Y U j v) (hs : U j → Y j = -1) : isFst Y U (j + 1) v := by
  refine ⟨h.1, fun o ho hu hy => ?_, ?_⟩
  · by_cases e : o = j
    · subst e; exact absurd (hs hu) hy
    · exact h.2.1 o (by omega) hu hy
  · rcases h.2.2 with z | ⟨o, ho, hu, hy, hv⟩
    · exact Or.inl z
    · exact Or.inr ⟨o, by omega, hu, hy, hv⟩
theorem isFst_take {Y : Nat → Int32} {U : Nat → Prop} {j : Nat} {v : Int32} (h : isFst Y U j v) (hu : U j) (hy : Y j ≠ -1) : isFst Y U (j + 1) (if v < Y j then Y j else v) := by
  by_cases c : v < Y j
  · rw [if_pos c]
    refine ⟨Int32.le_trans h.1 (i_le_of_lt c), fun o ho hou hoy => ?_, Or.inr ⟨j, by omega, hu, hy, rfl⟩⟩
    by_cases e : o = j
    · subst e; exact Int32.le_refl _
    · exact Int32.le_trans (h.2.1 o (by omega) hou hoy) (i_le_of_lt c)
  · rw [if_neg c]
    refine ⟨h.1, fun o ho hou hoy => ?_, ?_⟩
    · by_cases e : o = j
      · subst e; exact Int32.not_lt.mp c
      · exact h.2.1 o (by omega) hou hoy
    · rcases h.2.2 with z | ⟨o, ho, hu, hy, hv⟩
      · exact Or.inl z
      · exact Or.inr ⟨o, by omega, hu, hy, hv⟩
theorem isLst_skip {Y : Nat → Int32} {U : Nat → Prop} {j : Nat} {v : Int32} (h : isLst Y U j v) (hs : U j → Y j = -1) : isLst Y U (j + 1) v := by
  refine ⟨h.1, fun o ho hu hy => ?_, ?_⟩
  · by_cases e : o = j
    · subst e; exact absurd (hs hu) hy
    · exact h.2.1 o (by omega) hu hy
  · rcases h.2.2 with z | ⟨o, ho, hu, hy, hv⟩
    · exact Or.inl z
    · exact Or.inr ⟨o, by omega, hu, hy, hv⟩
theorem isLst_take {Y : Nat → Int32} {U : Nat → Prop} {j : Nat} {v : Int32} (h : isLst Y U j v) (hu : U j) (hy : Y j ≠ -1) : isLst Y U (j + 1) (if Y j < v then Y j else v) := by
  by_cases c : Y j < v
  · rw [if_pos c]
    refine ⟨Int32.le_trans (i_le_of_lt c) h.1, fun o ho hou hoy => ?_, Or.inr ⟨j, by omega, hu, hy, rfl⟩⟩
    by_cases e : o = j
    · subst e; exact Int32.le_refl _
    · exact Int32.le_trans (i_le_of_lt c) (h.2.1 o (by omega) hou hoy)
  · rw [if_neg c]
    refine ⟨h.1, fun o ho hou hoy => ?_, ?_⟩
    · by_cases e : o = j
      · subst e; exact Int32.not_lt.mp c
      · exact h.2.1 o (by omega) hou hoy
    · rcases h.2.2 with z | ⟨o, ho, hu, hy, hv⟩
      · exact Or.inl z
      · exact Or.inr ⟨o, by omega, hu, hy, hv⟩
theorem readYears_e {n : Nat} {A B : Nat → Nat} {f1 f2 f3 f4 Y : Nat → Int32} (hn : n ≤ 10) (hA : ∀ b, b < n → A b < 2 ^ n) (hB : ∀ b, b < n → B b < 2 ^ n) (h : ∀ b, b < n → f3 b = nI (A b) ∧ f4 b = nI (B b)) :
    Ok (f_X1_readYears (nI n) f1 f2 f3 f4 Y) (fun o => ∀ b, b < n → isFst Y (fun z => z = b ∨ (A b).testBit z = true) n (o.1 b) ∧ isLst Y (fun z => z = b ∨ (B b).testBit z = true) n (o.2 b)) := by
  unfold f_X1_readYears
  refine ok_wl (fun i s => s.1 = nI i ∧ ∀ b, b < i → isFst Y (fun z => z = b ∨ (A b).testBit z = true) n (s.2.1 b) ∧ isLst Y (fun z => z = b ∨ (B b).testBit z = true) n (s.2.2 b))
    (fun r => ∀ b, b < n → isFst Y (fun z => z = b ∨ (A b).testBit z = true) n (r.1 b) ∧ isLst Y (fun z => z = b ∨ (B b).testBit z = true) n (r.2 b)) n (by omega) ⟨rfl, fun b h => by omega⟩ ?_ ?_ ?_
  · rintro i ⟨l, w2, w3⟩ hi ⟨hl, hw⟩
    dsimp only at hl hw
    subst hl
    refine ok_nle hi (by omega) ?_
    refine ok_wl (fun j s => s.2.2 = nI j ∧ isFst Y (fun z => z = i ∨ (A i).testBit z = true) j s.1 ∧ isLst Y (fun z => z = i ∨ (B i).testBit z = true) j s.2.1)
      (fun r => isFst Y (fun z => z = i ∨ (A i).testBit z = true) n r.1 ∧ isLst Y (fun z => z = i ∨ (B i).testBit z = true) n r.2) n (by omega) ⟨rfl, ⟨Int32.le_refl _, fun o h => by omega, Or.inl rfl⟩, ⟨Int32.le_refl _, fun o h => by omega, Or.inl rfl⟩⟩ ?_ ?_ ?_
    · rintro j ⟨l3, l4, l⟩ hj ⟨hl, hF, hL⟩
      dsimp only at hl hF hL
      subst hl
      refine ok_nle hj (by omega) (ok_rd j rfl (by omega) (by decide) ?_)
      refine ok_jn (fun v => isFst Y (fun z => z = i ∨ (A i).testBit z = true) (j + 1) v) ?_ ?_
      · intro l3' hF'
        dsimp only [u1]
        refine ok_jn (fun v => isLst Y (fun z => z = i ∨ (B i).testBit z = true) (j + 1) v) ?_ ?_
        · intro l4' hL'
          exact ok_s ⟨nI_1 j, hF', hL'⟩
        · intro K hK
          refine ok_if (fun hy => hK _ (isLst_skip hL (fun _ => hy))) (fun hy => ?_)
          dsimp only [jn, u0]
          by_cases e : j = i
          · subst e
            exact ok_t rfl (hK _ (isLst_take hL (Or.inl rfl) hy))
          · refine ok_f (nI_ne e (by omega) (by omega)) (ok_rd i rfl (by omega) (by decide) ?_)
            rw [(h i hi).2]
            refine ok_be (has_e (m10 hn (hB i hi)) (by omega)) ?_
            dsimp only [u1]
            by_cases q : (B i).testBit j = true
            · rw [if_pos q]
              exact ok_f (by decide) (hK _ (isLst_take hL (Or.inr q) hy))
            · rw [if_neg q]
              exact ok_t rfl (hK _ (isLst_skip hL (fun z => by
                rcases z with z | z
                · exact absurd z e
                · exact absurd z q)))
      · intro K hK
        refine ok_if (fun hy => hK _ (isFst_skip hF (fun _ => hy))) (fun hy => ?_)
        dsimp only [jn, u0]
        by_cases e : j = i
        · subst e
          exact ok_t rfl (hK _ (isFst_take hF (Or.inl rfl) hy))
        · refine ok_f (nI_ne e (by omega) (by omega)) (ok_rd i rfl (by omega) (by decide) ?_)
          rw [(h i hi).1]
          refine ok_be (has_e (m10 hn (hA i hi)) (by omega)) ?_
          dsimp only [u1]
          by_cases q : (A i).testBit j = true
          · rw [if_pos q]
            exact ok_f (by decide) (hK _ (isFst_take hF (Or.inr q) hy))
          · rw [if_neg q]
            exact ok_t rfl (hK _ (isFst_skip hF (fun z => by
              rcases z with z | z
              · exact absurd z e
              · exact absurd z q)))
    · rintro ⟨l3, l4, l⟩ ⟨hl, hF, hL⟩
      dsimp only at hl hF hL
      subst hl
      exact ok_yle (Nat.le_refl _) (by omega) (ok_s ⟨hF, hL⟩)
    · rintro ⟨l3, l4⟩ ⟨hF, hL⟩
      dsimp only at hF hL
      refine ok_wr i rfl (by omega) (by decide) (ok_wr i rfl (by omega) (by decide) (ok_s ⟨nI_1 i, fun b hb => ?_⟩))
      dsimp only
      by_cases e : b = i
      · subst e
        rw [pk_us, pk_us]
        exact ⟨hF, hL⟩
      · rw [pk_un e, pk_un e]
        exact hw b (by omega)
  · rintro ⟨l, w2, w3⟩ ⟨hl, hw⟩
    dsimp only at hl hw
    subst hl
    exact ok_yle (Nat.le_refl _) (by omega) (ok_s hw)
  · rintro ⟨w4, w5⟩ hr
    exact ok_s hr
/-- a reading of the books of a shelf -/
def rdG (E : Nat → Nat → Bool) (n : Nat) (Y : Nat → Int32) (any sz : Int32) (bef beh fy ly aB aH : Nat → Int32) : Prop :=
  sz = nI n ∧ (∀ b, b < n → bef b = nI (bfM E n b) ∧ beh b = nI (bfM (tr E) n b)) ∧ ∃ A B : Nat → Nat, isCl E n A ∧ isCl (tr E) n B ∧ (∀ b, b < n → aB b = nI (A b) ∧ aH b = nI (B b)) ∧ (cyc n A ∧ any = 0 ∨ ¬ cyc n A ∧ any = 1) ∧
    ∀ b, b < n → isFst Y (fun z => z = b ∨ (A b).testBit z = true) n (fy b) ∧ isLst Y (fun z => z = b ∨ (B b).testBit z = true) n (ly b)
theorem read_e {n : Nat} {c any sz : Int32} {f1 f2 f3 f4 f5 f6 P L M Y : Nat → Int32} (hn : n ≤ 10) (h : yrOk n M Y) :
    Ok (f_X1_read c any sz f1 f2 f3 f4 f5 f6 (nI n) P L M Y) (fun o => o.1 = 0 ∧ rdG (eB P L M Y) n Y o.2.1 o.2.2.1 o.2.2.2.1 o.2.2.2.2.1 o.2.2.2.2.2.1 o.2.2.2.2.2.2.1 o.2.2.2.2.2.2.2.1 o.2.2.2.2.2.2.2.2) := by
  unfold f_X1_read
  refine ok_bd _ (readPairs_e hn h) ?_
  rintro ⟨o2, o3⟩ h1
  refine ok_bd _ (followPairs_e hn h1) ?_
  rintro ⟨o5, o6, o7⟩ ⟨A, B, hA, hB, hw, hc⟩
  refine ok_bd _ (readYears_e hn hA.1 hB.1 hw) ?_
  rintro ⟨o9, o10⟩ h3
  exact ok_s ⟨rfl, rfl, h1, A, B, hA, hB, hw, hc, h3⟩
theorem allBooks_e {n : Nat} (hn : n ≤ 10) : f_X1_allBooks (nI n) = some (nI (2 ^ n - 1)) := by
  unfold f_X1_allBooks
  rw [iN_full (by omega)]
/-- the table of the orders of sets -/
def tabG (E : Nat → Nat → Bool) (n : Nat) (c : Int32) (t : Nat → Int32) : Prop := (c = 0 ∨ c = 1) ∧ (c ≠ 0 → ∀ S, S < 2 ^ n → t S = nI (ct E n S))
theorem cos_e {n : Nat} {E : Nat → Nat → Bool} {f1 f2 : Nat → Int32} (hn : n ≤ 10) (h : ∀ b, b < n → f1 b = nI (bfM E n b)) : Ok (f_X1_countOrdersOfSets (nI n) f1 f2) (fun o => ∀ S, S < 2 ^ n → o S = nI (ct E n S)) := by
  have h2 := p2_31 hn
  have h2' := Nat.two_pow_pos n
  unfold f_X1_countOrdersOfSets
  refine ok_wr 0 rfl (by omega) (by decide) ?_
  refine ok_wl (fun i s => s.1 = nI (i + 1) ∧ ∀ S, S < i + 1 → s.2 S = nI (ct E n S)) (fun r => ∀ S, S < 2 ^ n → r S = nI (ct E n S)) (2 ^ n - 1) (by omega) ⟨rfl, fun S hS => ?_⟩ ?_ ?_ ?_
  · have : S = 0 := by omega
    subst this
    dsimp only
    rw [pk_us]
    rfl
  · rintro i ⟨l, w3⟩ hi ⟨hl, hw⟩
    dsimp only at hl hw
    subst hl
    dsimp only [u2]
    refine ok_be (allBooks_e hn) ?_
    dsimp only [u1]
    refine ok_f (nI_nlt (by omega) (by omega)) ?_
    refine ok_wl (fun j s => s.2 = nI j ∧ s.1 = nI (sm (fun x => if fF E n (i + 1) x = true then ct E n ((i + 1) ^^^ 2 ^ x) else 0) j)) (fun r => r = nI (ct E n (i + 1))) n (by omega) ⟨rfl, rfl⟩ ?_ ?_ ?_
    · rintro j ⟨s, l⟩ hj ⟨hl, hs⟩
      dsimp only at hl hs
      subst hl hs
      refine ok_nle hj (by omega) (ok_be (has_e (by omega) (by omega)) ?_)
      have hno : ¬ fF E n (i + 1) j = true → Ok (some (Sum.inl (nI (sm (fun x => if fF E n (i + 1) x = true then ct E n ((i + 1) ^^^ 2 ^ x) else 0) j), nI j + 1)) : Option ((Int32 × Int32) ⊕ Int32)) (Sum.elim (fun s => s.2 = nI (j + 1) ∧ s.1 = nI (sm (fun x => if fF E n (i + 1) x = true then ct E n ((i + 1) ^^^ 2 ^ x) else 0) (j + 1))) (fun r => r = nI (ct E n (i + 1)))) := fun q => by
        refine ok_s ⟨nI_1 j, ?_⟩
        dsimp only
        rw [sm, if_neg q]; rfl
      dsimp only [u1, jn]
      by_cases q : (i + 1).testBit j = true
      · rw [if_pos q]
        refine ok_f (by decide) (ok_rd j rfl (by omega) (by decide) ?_)
        rw [h j hj]
        have hd := iN_dis (A := bfM E n j) (S := i + 1) (m10 hn (bfM_lt E n j))
        by_cases c : nI (bfM E n j) &&& nI (i + 1) = 0
        · have hf : fF E n (i + 1) j = true := fF_iff.mpr ⟨q, fun z hz hs => by
            cases hE : E z j with
            | false => rfl
            | true =>
              have := hd.mp c z (by rw [bfM_bit]; simp [hz, hE])
              rw [hs] at this
              cases this⟩
          have hlt := rm_lt q
          refine ok_t c (ok_rd ((i + 1) ^^^ 2 ^ j) (iN_rm2 (by omega)) (by omega) (by decide) (ok_s ⟨nI_1 j, ?_⟩))
          dsimp only
          rw [hw _ hlt, nI_add, sm, if_pos hf]
        · refine ok_f c (hno (fun hf => c (hd.mpr (fun z hz => ?_))))
          rw [bfM_bit, Bool.and_eq_true, decide_eq_true_iff] at hz
          cases hs : (i + 1).testBit z with
          | false => rfl
          | true =>
            have := (fF_iff.mp hf).2 z hz.1 hs
            rw [hz.2] at this
            cases this
      · rw [if_neg q]
        exact ok_t rfl (hno (fun hf => q (fF_iff.mp hf).1))
    · rintro ⟨s, l⟩ ⟨hl, hs⟩
      dsimp only at hl hs
      subst hl hs
      refine ok_yle (Nat.le_refl _) (by omega) (ok_s ?_)
      show nI _ = _
      rw [ct_s E n (by omega)]
    · rintro r hr
      dsimp only [u1]
      refine ok_wr (i + 1) rfl (by omega) (by decide) (ok_s ⟨nI_1 (i + 1), fun S hS => ?_⟩)
      dsimp only
      by_cases e : S = i + 1
      · subst e
        rw [pk_us, hr]
      · rw [pk_un e]
        exact hw S (by omega)
  · rintro ⟨l, w3⟩ ⟨hl, hw⟩
    dsimp only at hl hw
    subst hl
    dsimp only [u2]
    refine ok_be (allBooks_e hn) ?_
    dsimp only [u1]
    exact ok_t (nI_lt (by omega) (by omega)) (ok_s (fun S hS => hw S (by omega)))
  · rintro r hr
    exact ok_s hr
theorem ordersOf_e {n S : Nat} {E : Nat → Nat → Bool} {c : Int32} {f1 f2 : Nat → Int32} (hn : n ≤ 10) (hS : S < 2 ^ n) (h : ∀ b, b < n → f1 b = nI (bfM E n b)) (ht : tabG E n c f2) : Ok (f_X1_ordersOf (nI S) c (nI n) f1 f2) (fun o => o.1 = nI (ct E n S) ∧ tabG E n o.2.1 o.2.2) := by
  have hS2 := m10' hn hS
  unfold f_X1_ordersOf
  refine ok_jn (fun v => tabG E n v.1 v.2 ∧ v.1 ≠ 0) ?_ ?_
  · rintro ⟨w1, w2⟩ ⟨hv, h0⟩
    dsimp only [u2, jn, u1, u0]
    refine ok_f (nI_pos (by omega)) (ok_f (nI_ge hS2 (by decide)) (ok_rd S rfl hS2 (by decide) (ok_s ⟨hv.2 h0 S hS, hv⟩)))
  · intro K hK
    refine ok_if (fun _ => ?_) (fun hc => hK _ ⟨ht, hc⟩)
    refine ok_bd _ (cos_e hn h) ?_
    intro o ho
    exact hK _ ⟨⟨Or.inr rfl, fun _ => ho⟩, by show (1 : Int32) ≠ 0; decide⟩
