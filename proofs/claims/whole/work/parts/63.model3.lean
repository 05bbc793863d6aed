/-! the reference's numbers -/
theorem on_k : ∀ a, a < 64 → ∀ b, b < 64 → f_X5_ones (nI (64 * a + b)) = some (nI (cd 12 (64 * a + b))) := by decide +kernel
theorem on_12 {k : Nat} (h : k < 4096) : f_X5_ones (nI k) = some (nI (cd 12 k)) := by
  have := on_k (k / 64) (by omega) (k % 64) (by omega)
  rw [show 64 * (k / 64) + k % 64 = k by omega] at this
  exact this
theorem on_e {n S : Nat} (hn : n ≤ 10) (hS : S < 2 ^ n) : f_X5_ones (nI S) = some (nI (cd n S)) := by
  rw [on_12 (by have := m10' hn hS; omega), cd_ext hS 12 (by omega)]
/-- whether one must be ahead, as a number -/
theorem ah_m {s P L M Y : Nat → Int32} {n a b : Nat} (hn : n ≤ 10) (h : rw4 s n P L M Y) (ha : a < n) (hb : b < n) {τ : Type} {R : τ → Prop} {K : Int32 → Option τ} (hK : Ok (K (if eB P L M Y a b = true then 1 else 0)) R) {c : Prop} [Decidable c] (hc : c ↔ a = b) :
    Ok (if c then K 0 else (f_X5_by (nI a) (nI b) 41 s).bind (u1 fun (r16 : Int32) => (if r16 = 0 then K 0 else K 1))) R := by
  by_cases e : a = b
  · refine ok_t (hc.mpr e) ?_
    rw [e, eB_irr] at hK
    exact hK
  · refine ok_f (fun z => e (hc.mp z)) (ok_be (by_m hn h ha hb) (ok_u1 ?_))
    by_cases q : spBy P L M Y a b = 0
    · rw [if_neg (by simp [eB, q])] at hK
      exact ok_t q hK
    · rw [if_pos (by simp [eB, q, e])] at hK
      exact ok_f q hK
theorem oth_join {τ : Type} {R : τ → Prop} {K : Int32 → Option τ} {x y : Bool} {w : Int32} (hw : w = 8 ∨ w = 9 ∨ w = 10) (hK : Ok (K (nI (if (if w = 8 then x else if w = 9 then y else (x && y)) = true then 1 else 0))) R) :
    Ok (jn (u0 (K 1)) (fun K11 => jn (u0 ((jn (u0 ((jn (u0 (K 0)) (fun K14 => (if w = 10 then (if (if x = true then (1 : Int32) else 0) = 0 then K14 () else (if (if y = true then (1 : Int32) else 0) = 0 then K14 () else K11 ())) else K14 ()))))) (fun K13 => (if w = 9 then (if (if y = true then (1 : Int32) else 0) = 0 then K13 () else K11 ()) else K13 ()))))) (fun K12 => (if w = 8 then (if (if x = true then (1 : Int32) else 0) = 0 then K12 () else K11 ()) else K12 ())))) R := by
  dsimp only [jn, u0]
  rcases hw with rfl | rfl | rfl <;> cases x <;> cases y <;> simp [nI] at hK ⊢ <;> exact hK
theorem par_join {τ : Type} {R : τ → Prop} {K : Int32 → Option τ} {x y : Bool} {w : Int32} (hK : Ok (K (nI (if (if w = 0 then (x ^^ y) else (x && y)) = true then 1 else 0))) R) :
    Ok (if w = 0 then (if (if x = true then (1 : Int32) else 0) = (if y = true then (1 : Int32) else 0) then K 0 else K 1) else (jn (u0 (K 0)) (fun K16 => (if (if x = true then (1 : Int32) else 0) = 0 then K16 () else (if (if y = true then (1 : Int32) else 0) = 0 then K16 () else K 1))))) R := by
  dsimp only [jn, u0]
  by_cases hw : w = 0 <;> cases x <;> cases y <;> simp [hw, nI] at hK ⊢ <;> exact hK
def othV (E : Nat → Nat → Bool) (n b : Nat) (w : Int32) : Int32 := if w = 8 then nI (cd n (bfM E n b)) else if w = 9 then nI (cd n (bfM (tr E) n b)) else nI (cd n (bfM E n b &&& bfM (tr E) n b))
def othB (E : Nat → Nat → Bool) (b : Nat) (w : Int32) (k : Nat) : Bool := if w = 8 then E k b else if w = 9 then E b k else (E k b && E b k)
theorem othV_e {E : Nat → Nat → Bool} {n b : Nat} {w : Int32} : othV E n b w = nI (sm (fun k => if othB E b w k = true then 1 else 0) n) := by
  unfold othV othB
  by_cases h : w = 8
  · simp only [if_pos h, bfM, cd_msk]
  · by_cases h9 : w = 9
    · simp only [if_neg h, if_pos h9, bfM, cd_msk, tr]
    · simp only [if_neg h, if_neg h9, bf_and, cd_msk]
theorem others_e {s P L M Y : Nat → Int32} {n b : Nat} {w : Int32} (hn : n ≤ 10) (h : rw4 s n P L M Y) (hb : b < n) (hw : w = 8 ∨ w = 9 ∨ w = 10) : f_X5_others (nI b) w s = some (othV (eB P L M Y) n b w) := by
  have key : Ok (f_X5_others (nI b) w s) (fun r => r = othV (eB P L M Y) n b w) := by
    rw [othV_e]
    unfold f_X5_others
    refine ok_wl (fun i s => s.2 = nI i ∧ s.1 = nI (sm (fun k => if othB (eB P L M Y) b w k = true then 1 else 0) i)) (fun r => r = nI (sm (fun k => if othB (eB P L M Y) b w k = true then 1 else 0) n)) n (by omega) ⟨rfl, rfl⟩ ?_ ?_ (fun r hr => ok_s hr)
    · rintro i ⟨l3, l⟩ hi ⟨hl, hs⟩
      dsimp only at hl hs
      subst hl hs
      refine ok_u2 (rd40 h (ok_nle hi (by omega) ?_))
      refine ok_jn (fun v => v = if eB P L M Y i b = true then 1 else 0) ?_ ?_
      · rintro s5 hs5
        refine ok_u1 ?_
        refine ok_jn (fun v => v = if eB P L M Y b i = true then 1 else 0) ?_ ?_
        · rintro s7 hs7
          refine ok_u1 ?_
          refine ok_jn (fun v => v = nI (if othB (eB P L M Y) b w i = true then 1 else 0)) ?_ ?_
          · rintro s9 rfl
            refine ok_s ⟨nI_1 i, ?_⟩
            dsimp only
            rw [nI_add]
            rfl
          · intro K hK
            subst hs5 hs7
            exact oth_join hw (hK _ rfl)
        · intro K hK
          refine ok_jd ?_
          exact ah_m hn h hb hi (hK _ rfl) (by rw [nI_eq (by omega) (by omega)]; exact ⟨Eq.symm, Eq.symm⟩)
      · intro K hK
        refine ok_jd ?_
        exact ah_m hn h hi hb (hK _ rfl) (nI_eq (by omega) (by omega))
    · rintro ⟨l3, l⟩ ⟨hl, hs⟩
      dsimp only at hl hs
      subst hl hs
      exact ok_u2 (rd40 h (ok_yle (Nat.le_refl _) (by omega) (ok_s rfl)))
  obtain ⟨r, h1, h2⟩ := key
  rw [h1, h2]
def havV (n : Nat) (P Y : Nat → Int32) (w : Int32) : Nat := if w = 2 then havY n Y else havP n P (w - 7)
theorem having_e {s P L M Y : Nat → Int32} {n : Nat} {w : Int32} (hn : n ≤ 10) (h : rw4 s n P L M Y) : f_X5_having w s = some (nI (havV n P Y w)) := by
  have key : Ok (f_X5_having w s) (fun r => r = nI (havV n P Y w)) := by
    unfold f_X5_having
    refine ok_wl (fun i s => s.2 = nI i ∧ s.1 = nI (havV i P Y w)) (fun r => r = nI (havV n P Y w)) n (by omega) ⟨rfl, ?_⟩ ?_ ?_ (fun r hr => ok_s hr)
    · unfold havV; split <;> rfl
    · rintro i ⟨l3, l⟩ hi ⟨hl, hs⟩
      dsimp only at hl hs
      subst hl hs
      refine ok_u2 (rd40 h (ok_nle hi (by omega) ?_))
      have h0 : havV (i + 1) P Y w = havV i P Y w → Ok (some (Sum.inl (nI (havV i P Y w) + 0, nI i + 1)) : Option ((Int32 × Int32) ⊕ Int32)) (Sum.elim (fun s => s.2 = nI (i + 1) ∧ s.1 = nI (havV (i + 1) P Y w)) (fun r => r = nI (havV n P Y w))) := fun z => ok_s ⟨nI_1 i, by rw [z, iN_0, nI_add]; rfl⟩
      have h1 : havV (i + 1) P Y w = havV i P Y w + 1 → Ok (some (Sum.inl (nI (havV i P Y w) + 1, nI i + 1)) : Option ((Int32 × Int32) ⊕ Int32)) (Sum.elim (fun s => s.2 = nI (i + 1) ∧ s.1 = nI (havV (i + 1) P Y w)) (fun r => r = nI (havV n P Y w))) := fun z => ok_s ⟨nI_1 i, by rw [z, nI_1]⟩
      dsimp only [jn, u1, u0]
      by_cases hw : w = 2
      · refine ok_t hw (ok_be (of_m3 hn h hi) ?_)
        by_cases hy : Y i = -1
        · exact ok_t hy (h0 (by simp [havV, hw, havY, sm, hy]))
        · exact ok_f hy (h1 (by simp [havV, hw, havY, sm, hy]))
      · refine ok_f hw (ok_be (of_m0 hn h hi) ?_)
        by_cases hp : P i = w - 7
        · exact ok_t hp (h1 (by simp [havV, hw, havP, sm, hp]))
        · exact ok_f hp (h0 (by simp [havV, hw, havP, sm, hp]))
    · rintro ⟨l3, l⟩ ⟨hl, hs⟩
      dsimp only at hl hs
      subst hl hs
      exact ok_u2 (rd40 h (ok_yle (Nat.le_refl _) (by omega) (ok_s rfl)))
  obtain ⟨r, h1, h2⟩ := key
  rw [h1, h2]
def paB (E : Nat → Nat → Bool) (both : Int32) (a b : Nat) : Bool := if both = 0 then (E a b ^^ E b a) else (E a b && E b a)
theorem pairs_e {s P L M Y : Nat → Int32} {n : Nat} {w : Int32} (hn : n ≤ 10) (h : rw4 s n P L M Y) : f_X5_pairs w s = some (nI (sm (fun b => sm (fun a => if paB (eB P L M Y) w a b = true then 1 else 0) b) n)) := by
  have key : Ok (f_X5_pairs w s) (fun r => r = nI (sm (fun b => sm (fun a => if paB (eB P L M Y) w a b = true then 1 else 0) b) n)) := by
    unfold f_X5_pairs
    refine ok_wl (fun i s => s.2 = nI i ∧ s.1 = nI (sm (fun b => sm (fun a => if paB (eB P L M Y) w a b = true then 1 else 0) b) i)) (fun r => r = nI (sm (fun b => sm (fun a => if paB (eB P L M Y) w a b = true then 1 else 0) b) n)) n (by omega) ⟨rfl, rfl⟩ ?_ ?_ (fun r hr => ok_s hr)
    · rintro i ⟨l3, l⟩ hi ⟨hl, hs⟩
      dsimp only at hl hs
      subst hl hs
      refine ok_u2 (rd40 h (ok_nle hi (by omega) ?_))
      refine ok_wl (fun j s => s.2 = nI j ∧ s.1 = nI (sm (fun b => sm (fun a => if paB (eB P L M Y) w a b = true then 1 else 0) b) i + sm (fun a => if paB (eB P L M Y) w a i = true then 1 else 0) j)) (fun r => r = nI (sm (fun b => sm (fun a => if paB (eB P L M Y) w a b = true then 1 else 0) b) (i + 1))) i (by omega) ⟨rfl, rfl⟩ ?_ ?_ (fun r hr => ok_s ⟨nI_1 i, hr⟩)
      · rintro j ⟨l3, l⟩ hj ⟨hl, hs⟩
        dsimp only at hl hs
        subst hl hs
        refine ok_nle hj (by omega) (ok_be (by_m hn h (by omega) hi) (ok_u1 ?_))
        refine ok_jn (fun v => v = if eB P L M Y j i = true then 1 else 0) ?_ ?_
        · rintro s9 hs9
          refine ok_u1 (ok_be (by_m hn h hi (by omega)) (ok_u1 ?_))
          refine ok_jn (fun v => v = if eB P L M Y i j = true then 1 else 0) ?_ ?_
          · rintro s12 hs12
            refine ok_u1 ?_
            refine ok_jn (fun v => v = nI (if paB (eB P L M Y) w j i = true then 1 else 0)) ?_ ?_
            · rintro s14 rfl
              refine ok_s ⟨nI_1 j, ?_⟩
              dsimp only
              rw [nI_add, sm, Nat.add_assoc]
            · intro K hK
              subst hs9 hs12
              exact par_join (hK _ rfl)
          · intro K hK
            by_cases q : spBy P L M Y i j = 0
            · exact ok_t q (hK _ (by simp [eB, q]))
            · exact ok_f q (hK _ (by simp [eB, q]; omega))
        · intro K hK
          by_cases q : spBy P L M Y j i = 0
          · exact ok_t q (hK _ (by simp [eB, q]))
          · exact ok_f q (hK _ (by simp [eB, q]; omega))
      · rintro ⟨l3, l⟩ ⟨hl, hs⟩
        dsimp only at hl hs
        subst hl hs
        exact ok_yle (Nat.le_refl _) (by omega) (ok_s rfl)
    · rintro ⟨l3, l⟩ ⟨hl, hs⟩
      dsimp only at hl hs
      subst hl hs
      exact ok_u2 (rd40 h (ok_yle (Nat.le_refl _) (by omega) (ok_s rfl)))
  obtain ⟨r, h1, h2⟩ := key
  rw [h1, h2]
theorem pa_1 (E : Nat → Nat → Bool) (n : Nat) : sm (fun b => sm (fun a => if paB E 1 a b = true then 1 else 0) b) n = conP E n := rfl
theorem pa_0 (E : Nat → Nat → Bool) (n : Nat) : sm (fun b => sm (fun a => if paB E 0 a b = true then 1 else 0) b) n = ordP E n := rfl
