/-! date, undo, text's keeping, looks, on both sides -/
theorem ok_u20 {A1 A2 A3 A4 A5 A6 A7 A8 A9 A10 A11 A12 A13 A14 A15 A16 A17 A18 A19 A20 τ : Type} {k : A1 → A2 → A3 → A4 → A5 → A6 → A7 → A8 → A9 → A10 → A11 → A12 → A13 → A14 → A15 → A16 → A17 → A18 → A19 → A20 → Option τ} {a1 : A1} {a2 : A2} {a3 : A3} {a4 : A4} {a5 : A5} {a6 : A6} {a7 : A7} {a8 : A8} {a9 : A9} {a10 : A10} {a11 : A11} {a12 : A12} {a13 : A13} {a14 : A14} {a15 : A15} {a16 : A16} {a17 : A17} {a18 : A18} {a19 : A19} {a20 : A20} {R : τ → Prop} (h : Ok (k a1 a2 a3 a4 a5 a6 a7 a8 a9 a10 a11 a12 a13 a14 a15 a16 a17 a18 a19 a20) R) : Ok (u20 k (a1, a2, a3, a4, a5, a6, a7, a8, a9, a10, a11, a12, a13, a14, a15, a16, a17, a18, a19, a20)) R := h
theorem ok_u21 {A1 A2 A3 A4 A5 A6 A7 A8 A9 A10 A11 A12 A13 A14 A15 A16 A17 A18 A19 A20 A21 τ : Type} {k : A1 → A2 → A3 → A4 → A5 → A6 → A7 → A8 → A9 → A10 → A11 → A12 → A13 → A14 → A15 → A16 → A17 → A18 → A19 → A20 → A21 → Option τ} {a1 : A1} {a2 : A2} {a3 : A3} {a4 : A4} {a5 : A5} {a6 : A6} {a7 : A7} {a8 : A8} {a9 : A9} {a10 : A10} {a11 : A11} {a12 : A12} {a13 : A13} {a14 : A14} {a15 : A15} {a16 : A16} {a17 : A17} {a18 : A18} {a19 : A19} {a20 : A20} {a21 : A21} {R : τ → Prop} (h : Ok (k a1 a2 a3 a4 a5 a6 a7 a8 a9 a10 a11 a12 a13 a14 a15 a16 a17 a18 a19 a20 a21) R) : Ok (u21 k (a1, a2, a3, a4, a5, a6, a7, a8, a9, a10, a11, a12, a13, a14, a15, a16, a17, a18, a19, a20, a21)) R := h
theorem ok_u22 {A1 A2 A3 A4 A5 A6 A7 A8 A9 A10 A11 A12 A13 A14 A15 A16 A17 A18 A19 A20 A21 A22 τ : Type} {k : A1 → A2 → A3 → A4 → A5 → A6 → A7 → A8 → A9 → A10 → A11 → A12 → A13 → A14 → A15 → A16 → A17 → A18 → A19 → A20 → A21 → A22 → Option τ} {a1 : A1} {a2 : A2} {a3 : A3} {a4 : A4} {a5 : A5} {a6 : A6} {a7 : A7} {a8 : A8} {a9 : A9} {a10 : A10} {a11 : A11} {a12 : A12} {a13 : A13} {a14 : A14} {a15 : A15} {a16 : A16} {a17 : A17} {a18 : A18} {a19 : A19} {a20 : A20} {a21 : A21} {a22 : A22} {R : τ → Prop} (h : Ok (k a1 a2 a3 a4 a5 a6 a7 a8 a9 a10 a11 a12 a13 a14 a15 a16 a17 a18 a19 a20 a21 a22) R) : Ok (u22 k (a1, a2, a3, a4, a5, a6, a7, a8, a9, a10, a11, a12, a13, a14, a15, a16, a17, a18, a19, a20, a21, a22)) R := h
theorem ok_u23 {A1 A2 A3 A4 A5 A6 A7 A8 A9 A10 A11 A12 A13 A14 A15 A16 A17 A18 A19 A20 A21 A22 A23 τ : Type} {k : A1 → A2 → A3 → A4 → A5 → A6 → A7 → A8 → A9 → A10 → A11 → A12 → A13 → A14 → A15 → A16 → A17 → A18 → A19 → A20 → A21 → A22 → A23 → Option τ} {a1 : A1} {a2 : A2} {a3 : A3} {a4 : A4} {a5 : A5} {a6 : A6} {a7 : A7} {a8 : A8} {a9 : A9} {a10 : A10} {a11 : A11} {a12 : A12} {a13 : A13} {a14 : A14} {a15 : A15} {a16 : A16} {a17 : A17} {a18 : A18} {a19 : A19} {a20 : A20} {a21 : A21} {a22 : A22} {a23 : A23} {R : τ → Prop} (h : Ok (k a1 a2 a3 a4 a5 a6 a7 a8 a9 a10 a11 a12 a13 a14 a15 a16 a17 a18 a19 a20 a21 a22 a23) R) : Ok (u23 k (a1, a2, a3, a4, a5, a6, a7, a8, a9, a10, a11, a12, a13, a14, a15, a16, a17, a18, a19, a20, a21, a22, a23)) R := h
theorem ok_u24 {A1 A2 A3 A4 A5 A6 A7 A8 A9 A10 A11 A12 A13 A14 A15 A16 A17 A18 A19 A20 A21 A22 A23 A24 τ : Type} {k : A1 → A2 → A3 → A4 → A5 → A6 → A7 → A8 → A9 → A10 → A11 → A12 → A13 → A14 → A15 → A16 → A17 → A18 → A19 → A20 → A21 → A22 → A23 → A24 → Option τ} {a1 : A1} {a2 : A2} {a3 : A3} {a4 : A4} {a5 : A5} {a6 : A6} {a7 : A7} {a8 : A8} {a9 : A9} {a10 : A10} {a11 : A11} {a12 : A12} {a13 : A13} {a14 : A14} {a15 : A15} {a16 : A16} {a17 : A17} {a18 : A18} {a19 : A19} {a20 : A20} {a21 : A21} {a22 : A22} {a23 : A23} {a24 : A24} {R : τ → Prop} (h : Ok (k a1 a2 a3 a4 a5 a6 a7 a8 a9 a10 a11 a12 a13 a14 a15 a16 a17 a18 a19 a20 a21 a22 a23 a24) R) : Ok (u24 k (a1, a2, a3, a4, a5, a6, a7, a8, a9, a10, a11, a12, a13, a14, a15, a16, a17, a18, a19, a20, a21, a22, a23, a24)) R := h
theorem ok_u25 {A1 A2 A3 A4 A5 A6 A7 A8 A9 A10 A11 A12 A13 A14 A15 A16 A17 A18 A19 A20 A21 A22 A23 A24 A25 τ : Type} {k : A1 → A2 → A3 → A4 → A5 → A6 → A7 → A8 → A9 → A10 → A11 → A12 → A13 → A14 → A15 → A16 → A17 → A18 → A19 → A20 → A21 → A22 → A23 → A24 → A25 → Option τ} {a1 : A1} {a2 : A2} {a3 : A3} {a4 : A4} {a5 : A5} {a6 : A6} {a7 : A7} {a8 : A8} {a9 : A9} {a10 : A10} {a11 : A11} {a12 : A12} {a13 : A13} {a14 : A14} {a15 : A15} {a16 : A16} {a17 : A17} {a18 : A18} {a19 : A19} {a20 : A20} {a21 : A21} {a22 : A22} {a23 : A23} {a24 : A24} {a25 : A25} {R : τ → Prop} (h : Ok (k a1 a2 a3 a4 a5 a6 a7 a8 a9 a10 a11 a12 a13 a14 a15 a16 a17 a18 a19 a20 a21 a22 a23 a24 a25) R) : Ok (u25 k (a1, a2, a3, a4, a5, a6, a7, a8, a9, a10, a11, a12, a13, a14, a15, a16, a17, a18, a19, a20, a21, a22, a23, a24, a25)) R := h
theorem ok_u26 {A1 A2 A3 A4 A5 A6 A7 A8 A9 A10 A11 A12 A13 A14 A15 A16 A17 A18 A19 A20 A21 A22 A23 A24 A25 A26 τ : Type} {k : A1 → A2 → A3 → A4 → A5 → A6 → A7 → A8 → A9 → A10 → A11 → A12 → A13 → A14 → A15 → A16 → A17 → A18 → A19 → A20 → A21 → A22 → A23 → A24 → A25 → A26 → Option τ} {a1 : A1} {a2 : A2} {a3 : A3} {a4 : A4} {a5 : A5} {a6 : A6} {a7 : A7} {a8 : A8} {a9 : A9} {a10 : A10} {a11 : A11} {a12 : A12} {a13 : A13} {a14 : A14} {a15 : A15} {a16 : A16} {a17 : A17} {a18 : A18} {a19 : A19} {a20 : A20} {a21 : A21} {a22 : A22} {a23 : A23} {a24 : A24} {a25 : A25} {a26 : A26} {R : τ → Prop} (h : Ok (k a1 a2 a3 a4 a5 a6 a7 a8 a9 a10 a11 a12 a13 a14 a15 a16 a17 a18 a19 a20 a21 a22 a23 a24 a25 a26) R) : Ok (u26 k (a1, a2, a3, a4, a5, a6, a7, a8, a9, a10, a11, a12, a13, a14, a15, a16, a17, a18, a19, a20, a21, a22, a23, a24, a25, a26)) R := h
theorem ok_u27 {A1 A2 A3 A4 A5 A6 A7 A8 A9 A10 A11 A12 A13 A14 A15 A16 A17 A18 A19 A20 A21 A22 A23 A24 A25 A26 A27 τ : Type} {k : A1 → A2 → A3 → A4 → A5 → A6 → A7 → A8 → A9 → A10 → A11 → A12 → A13 → A14 → A15 → A16 → A17 → A18 → A19 → A20 → A21 → A22 → A23 → A24 → A25 → A26 → A27 → Option τ} {a1 : A1} {a2 : A2} {a3 : A3} {a4 : A4} {a5 : A5} {a6 : A6} {a7 : A7} {a8 : A8} {a9 : A9} {a10 : A10} {a11 : A11} {a12 : A12} {a13 : A13} {a14 : A14} {a15 : A15} {a16 : A16} {a17 : A17} {a18 : A18} {a19 : A19} {a20 : A20} {a21 : A21} {a22 : A22} {a23 : A23} {a24 : A24} {a25 : A25} {a26 : A26} {a27 : A27} {R : τ → Prop} (h : Ok (k a1 a2 a3 a4 a5 a6 a7 a8 a9 a10 a11 a12 a13 a14 a15 a16 a17 a18 a19 a20 a21 a22 a23 a24 a25 a26 a27) R) : Ok (u27 k (a1, a2, a3, a4, a5, a6, a7, a8, a9, a10, a11, a12, a13, a14, a15, a16, a17, a18, a19, a20, a21, a22, a23, a24, a25, a26, a27)) R := h
def dtY (E : Nat → Nat → Bool) (n : Nat) (Y : Nat → Int32) (b : Nat) : Int32 := if Y b = -1 ∧ fyV E n Y b = lyV E n Y b then fyV E n Y b else Y b
def dtN (E : Nat → Nat → Bool) (n : Nat) (Y : Nat → Int32) (i : Nat) : Nat := sm (fun b => if Y b = -1 ∧ fyV E n Y b = lyV E n Y b then 1 else 0) i
theorem fyR_rg {n : Nat} {M Y : Nat → Int32} (h : yrOk n M Y) (u : Nat → Bool) : ∀ i, i ≤ n → 1450 ≤ fyR Y u i ∧ fyR Y u i ≤ 1999
  | 0, _ => by
    show (1450 : Int32) ≤ 1450 ∧ (1450 : Int32) ≤ 1999
    decide
  | i + 1, hi => by
    rw [fyR]
    have ih := fyR_rg h u i (by omega)
    by_cases q : u i = true ∧ Y i ≠ -1
    · rw [if_pos q]
      split
      · rcases (h i (by omega)).2 with z | z
        · exact absurd z q.2
        · exact z
      · exact ih
    · rw [if_neg q]; exact ih
theorem yr_dt {n : Nat} {M Y : Nat → Int32} {E : Nat → Nat → Bool} (h : yrOk n M Y) : yrOk n M (dtY E n Y) := fun b hb => by
  refine ⟨(h b hb).1, ?_⟩
  unfold dtY
  split
  · exact Or.inr (fyR_rg h _ n (Nat.le_refl n))
  · exact (h b hb).2
def dtP (E : Nat → Nat → Bool) (n : Nat) (Y : Nat → Int32) (i b : Nat) : Int32 := if b < i then dtY E n Y b else Y b
theorem dateL_e {n : Nat} {E : Nat → Nat → Bool} {fy ly Y : Nat → Int32} (hn : n ≤ 10) (h : ∀ b, b < n → fy b = fyV E n Y b ∧ ly b = lyV E n Y b) {τ : Type} {R : τ → Prop} {k : Int32 × (Nat → Int32) → Option τ}
    (hk : ∀ Y', (∀ b, b < n → Y' b = dtY E n Y b) → Ok (k (nI (dtN E n Y n), Y')) R) :
    Ok ((wl (u3 fun (l2_21 : Int32) (l3_22 : Int32) (w23 : Nat → Int32) => (if nI n ≤ l3_22 then some (Sum.inr (l2_21, w23)) else (rdA w23 10 l3_22).bind (fun v26 => (jn (u2 fun (l2_27 : Int32) (w28 : Nat → Int32) => some (Sum.inl (l2_27, (l3_22 + 1), w28))) (fun K29 => (if v26 = (-1) then (f_X1_isDated l3_22 fy ly).bind (u1 fun (r30 : Int32) => (if r30 = 0 then K29 (l2_21, w23) else (rdA fy 10 l3_22).bind (fun v31 => (wrA w23 10 l3_22 v31).bind (fun g32 => K29 ((l2_21 + 1), g32))))) else K29 (l2_21, w23))))))) 9999 (0, 0, Y)).bind k) R := by
  refine ok_wl (fun i s => s.2.1 = nI i ∧ s.1 = nI (dtN E n Y i) ∧ ∀ b, b < n → s.2.2 b = dtP E n Y i b) (fun r => r.1 = nI (dtN E n Y n) ∧ ∀ b, b < n → r.2 b = dtY E n Y b) n (by omega) ⟨rfl, rfl, fun b hb => ?_⟩ ?_ ?_ ?_
  · dsimp only
    rw [dtP, if_neg (Nat.not_lt_zero b)]
  · rintro i ⟨l2, l3, w⟩ hi ⟨e1, e2, hw⟩
    dsimp only at e1 e2 hw
    subst e1 e2
    have hwi := hw i hi
    rw [dtP, if_neg (Nat.lt_irrefl i)] at hwi
    refine ok_u3 (ok_nle hi (by omega) (ok_rd i rfl (by omega) (by decide) ?_))
    rw [hwi]
    refine ok_jn (fun v => v.1 = nI (dtN E n Y (i + 1)) ∧ ∀ b, b < n → v.2 b = dtP E n Y (i + 1) b) ?_ ?_
    · rintro ⟨l, w28⟩ ⟨a1, a2⟩
      exact ok_u2 (ok_s ⟨nI_1 i, a1, a2⟩)
    · intro K hK
      have hno : ¬ (Y i = -1 ∧ fyV E n Y i = lyV E n Y i) → Ok (K (nI (dtN E n Y i), w)) _ := fun q => hK _ ⟨by
        show nI (dtN E n Y i) = nI (dtN E n Y i + if _ then 1 else 0)
        rw [if_neg q]; rfl, fun b hb => by
        dsimp only
        rw [hw b hb, dtP, dtP]
        by_cases e : b = i
        · subst e
          rw [if_neg (Nat.lt_irrefl b), if_pos (by omega), dtY, if_neg q]
        · by_cases z : b < i
          · rw [if_pos z, if_pos (by omega)]
          · rw [if_neg z, if_neg (by omega)]⟩
      by_cases q1 : Y i = -1
      · refine ok_t q1 (ok_be (isDated_e (by omega)) (ok_u1 ?_))
        rw [(h i hi).1, (h i hi).2]
        by_cases q2 : fyV E n Y i = lyV E n Y i
        · rw [if_pos q2]
          refine ok_f (by decide) (ok_rd i rfl (by omega) (by decide) (ok_wr i rfl (by omega) (by decide) (hK _ ⟨?_, fun b hb => ?_⟩)))
          · show nI (dtN E n Y i) + 1 = nI (dtN E n Y i + if _ then 1 else 0)
            rw [if_pos ⟨q1, q2⟩, nI_1]
          · dsimp only
            by_cases e : b = i
            · subst e
              rw [pk_us, dtP, if_pos (by omega), dtY, if_pos ⟨q1, q2⟩, (h b hi).1]
            · rw [pk_un e, hw b hb, dtP, dtP]
              by_cases z : b < i
              · rw [if_pos z, if_pos (by omega)]
              · rw [if_neg z, if_neg (by omega)]
        · rw [if_neg q2]
          exact ok_t rfl (hno (fun z => q2 z.2))
      · exact ok_f q1 (hno (fun z => q1 z.1))
  · rintro ⟨l2, l3, w⟩ ⟨e1, e2, hw⟩
    dsimp only at e1 e2 hw
    subst e1 e2
    refine ok_yle (Nat.le_refl _) (by omega) (ok_s ⟨rfl, fun b hb => ?_⟩)
    have := hw b hb
    rw [dtP, if_pos hb] at this
    exact this
  · rintro ⟨r, w⟩ ⟨rfl, hw⟩
    exact hk w hw
theorem dateM_e {n : Nat} {E : Nat → Nat → Bool} {now o6 P L M Y : Nat → Int32} (hn : n ≤ 10) (h0 : rw4 now n P L M Y) (h : ∀ b, b < n → o6 (2 * b) = fyV E n Y b ∧ o6 (2 * b + 1) = lyV E n Y b) {τ : Type} {R : τ → Prop} {k : Int32 × (Nat → Int32) → Option τ}
    (hk : ∀ w, rw4 w n P L M (dtY E n Y) → Ok (k (nI (dtN E n Y n), w)) R) :
    Ok ((wl (u3 fun (l1_7 : Int32) (l2_8 : Int32) (w9 : Nat → Int32) => (rdA w9 41 40).bind (fun v12 => (if v12 ≤ l2_8 then some (Sum.inr (l1_7, w9)) else (f_X5_of l2_8 3 41 w9).bind (u1 fun (r13 : Int32) => (jn (u2 fun (l1_14 : Int32) (w15 : Nat → Int32) => some (Sum.inl (l1_14, (l2_8 + 1), w15))) (fun K16 => (if r13 = (-1) then (f_X5_isDated l2_8 o6).bind (u1 fun (r17 : Int32) => (if r17 = 0 then K16 (l1_7, w9) else (rdA o6 20 ((2 : Int32) * l2_8)).bind (fun v18 => (wrA w9 41 (((4 : Int32) * l2_8) + 3) v18).bind (fun g19 => K16 ((l1_7 + 1), g19))))) else K16 (l1_7, w9)))))))) 9999 (0, 0, now)).bind k) R := by
  refine ok_wl (fun i s => s.2.1 = nI i ∧ s.1 = nI (dtN E n Y i) ∧ rw4 s.2.2 n P L M (dtP E n Y i)) (fun r => r.1 = nI (dtN E n Y n) ∧ rw4 r.2 n P L M (dtY E n Y)) n (by omega) ⟨rfl, rfl, h0.1, fun b hb => ?_⟩ ?_ ?_ ?_
  · rw [dtP, if_neg (Nat.not_lt_zero b)]
    exact h0.2 b hb
  · rintro i ⟨l1, l2, w⟩ hi ⟨e1, e2, hw⟩
    dsimp only at e1 e2 hw
    subst e1 e2
    refine ok_u3 (rd40 hw (ok_nle hi (by omega) (ok_be (of_m3 hn hw hi) (ok_u1 ?_))))
    rw [show dtP E n Y i i = Y i by rw [dtP, if_neg (Nat.lt_irrefl i)]]
    refine ok_jn (fun v => v.1 = nI (dtN E n Y (i + 1)) ∧ rw4 v.2 n P L M (dtP E n Y (i + 1))) ?_ ?_
    · rintro ⟨l, w28⟩ ⟨a1, a2⟩
      exact ok_u2 (ok_s ⟨nI_1 i, a1, a2⟩)
    · intro K hK
      have hst : ∀ b, b < n → b ≠ i → dtP E n Y (i + 1) b = dtP E n Y i b := fun b hb e => by
        rw [dtP, dtP]
        by_cases z : b < i
        · rw [if_pos z, if_pos (by omega)]
        · rw [if_neg z, if_neg (by omega)]
      have hno : ¬ (Y i = -1 ∧ fyV E n Y i = lyV E n Y i) → Ok (K (nI (dtN E n Y i), w)) _ := fun q => hK _ ⟨by
        show nI (dtN E n Y i) = nI (dtN E n Y i + if _ then 1 else 0)
        rw [if_neg q]; rfl, hw.1, fun b hb => by
        have h2 := hw.2 b hb
        refine ⟨h2.1, h2.2.1, h2.2.2.1, ?_⟩
        dsimp only
        rw [h2.2.2.2]
        by_cases e : b = i
        · subst e
          rw [dtP, dtP, if_neg (Nat.lt_irrefl b), if_pos (by omega), dtY, if_neg q]
        · rw [hst b hb e]⟩
      by_cases q1 : Y i = -1
      · refine ok_t q1 (ok_be (isDatedM_e (by omega)) (ok_u1 ?_))
        rw [(h i hi).1, (h i hi).2]
        by_cases q2 : fyV E n Y i = lyV E n Y i
        · rw [if_pos q2]
          refine ok_f (by decide) (ok_rd (2 * i) (nI_2m i) (by omega) (by decide) (ok_wr (4 * i + 3) (nI_43 i) (by omega) (by decide) (hK _ ⟨?_, ?_, fun b hb => ?_⟩)))
          · show nI (dtN E n Y i) + 1 = nI (dtN E n Y i + if _ then 1 else 0)
            rw [if_pos ⟨q1, q2⟩, nI_1]
          · dsimp only
            rw [pk_un (by omega)]; exact hw.1
          · have h2 := hw.2 b hb
            dsimp only
            rw [pk_un (by omega), pk_un (by omega), pk_un (by omega)]
            refine ⟨h2.1, h2.2.1, h2.2.2.1, ?_⟩
            by_cases e : b = i
            · subst e
              rw [pk_us, dtP, if_pos (by omega), dtY, if_pos ⟨q1, q2⟩, (h b hi).1]
            · rw [pk_un (by omega), h2.2.2.2, hst b hb e]
        · rw [if_neg q2]
          exact ok_t rfl (hno (fun z => q2 z.2))
      · exact ok_f q1 (hno (fun z => q1 z.1))
  · rintro ⟨l1, l2, w⟩ ⟨e1, e2, hw⟩
    dsimp only at e1 e2 hw
    subst e1 e2
    refine ok_u3 (rd40 hw (ok_yle (Nat.le_refl _) (by omega) (ok_s ⟨rfl, hw.1, fun b hb => ?_⟩)))
    have := hw.2 b hb
    rw [dtP, if_pos hb] at this
    exact this
  · rintro ⟨r, w⟩ ⟨rfl, hw⟩
    exact hk w hw
section Face3
variable {sN old hs kept c any rs th : Int32} {P L M Y hN now past bef beh fy ly aB aH tab : Nat → Int32} {hP hL hM hY : Nat → Nat → Int32} {out : Nat → Int64} {f2 f3 f4 f5 : Nat → Int32}
theorem t_date (h : stR sN old hs kept P L M Y hN hP hL hM hY now past c any rs bef beh fy ly aB aH tab) :
    Ok (f_X4_date old sN P L M Y hs hN hP hL hM hY c any rs bef beh fy ly aB aH) (fun o => Ok (f_X5_date kept th now past f2 f3) (fun o' => o.1 = o'.1 ∧ stR sN o.2.1 o.2.2.2.1 o'.2.1 P L M o.2.2.1 o.2.2.2.2.1 o.2.2.2.2.2.1 o.2.2.2.2.2.2.1 o.2.2.2.2.2.2.2.1 o.2.2.2.2.2.2.2.2.1 o'.2.2.2.1 o'.2.2.2.2.1 o.2.2.2.2.2.2.2.2.2.1 o.2.2.2.2.2.2.2.2.2.2.1 o.2.2.2.2.2.2.2.2.2.2.2.1 o.2.2.2.2.2.2.2.2.2.2.2.2.1 o.2.2.2.2.2.2.2.2.2.2.2.2.2.1 o.2.2.2.2.2.2.2.2.2.2.2.2.2.2.1 o.2.2.2.2.2.2.2.2.2.2.2.2.2.2.2.1 o.2.2.2.2.2.2.2.2.2.2.2.2.2.2.2.2.1 o.2.2.2.2.2.2.2.2.2.2.2.2.2.2.2.2.2 tab)) := by
  obtain ⟨n, g, rfl, rfl, rfl, h1, h2, h3⟩ := h
  have hst : stR (nI n) old (nI g) (nI g) P L M Y hN hP hL hM hY now past c any rs bef beh fy ly aB aH tab := ⟨n, g, rfl, rfl, rfl, h1, h2, h3⟩
  have hn := h1.1
  have hY0 := h1.2.1
  have hw := h1.2.2.2
  unfold f_X4_date f_X5_date
  refine ok_bd _ (cr_e hn hY0 h3) ?_
  rintro ⟨o2, o3, o4, o5, o6, o7, o8, o9, o10, o11⟩ ⟨a1, a2, a3⟩
  dsimp only at a1 a2 a3
  subst a1
  refine ok_u10 (ok_bd _ (save2_e h1 h2) ?_)
  rintro ⟨o13, o14, o15, o16, o17, o18, o19⟩ ⟨e1, hsv⟩
  dsimp only at e1
  subst e1
  refine ok_u7 (dateL_e hn (fun b hb => (a2.2.2 b hb).2.1) (fun Y' hY' => ok_u2 (ok_s ?_)))
  refine ok_bd _ hsv ?_
  rintro ⟨k', past'⟩ ⟨h', e1, e2, h5⟩
  refine ok_u2 (ok_bd _ (dates_e hn hY0 hw) ?_)
  rintro ⟨o20, o21⟩ ⟨-, hg⟩
  refine ok_u2 (dateM_e hn hw (yrV_of hg) (fun w hw' => ok_u2 (ok_s ⟨rfl, n, h', rfl, e1, e2, ?_, h5, rsG_1⟩)))
  exact shR_cg (P := P) (L := L) (M := M) (Y := dtY (eB P L M Y) n Y) ⟨hn, yr_dt hY0, h1.2.2.1, hw'⟩ (fun b hb => ⟨rfl, rfl, rfl, hY' b hb⟩) (fun _ _ => rfl)
theorem t_undo (h : stR sN old hs kept P L M Y hN hP hL hM hY now past c any rs bef beh fy ly aB aH tab) :
    Ok (f_L_undo old sN P L M Y hs hN hP hL hM hY out) (fun o => Ok (f_X5_undo kept th now past) (fun o' => anR o.1 o.2.2.2.2.2.2.2.2 o'.1 o'.2.2.1 ∧ stR o.2.2.1 o.2.1 o.2.2.2.2.2.2.2.1 o'.2.1 o.2.2.2.1 o.2.2.2.2.1 o.2.2.2.2.2.1 o.2.2.2.2.2.2.1 hN hP hL hM hY o'.2.2.2 past c any rs bef beh fy ly aB aH tab)) := by
  obtain ⟨n, g, rfl, rfl, rfl, h1, h2, h3⟩ := h
  have hst : stR (nI n) old (nI g) (nI g) P L M Y hN hP hL hM hY now past c any rs bef beh fy ly aB aH tab := ⟨n, g, rfl, rfl, rfl, h1, h2, h3⟩
  have hn := h1.1
  have hY0 := h1.2.1
  have hw := h1.2.2.2
  unfold f_L_undo f_X4_undo f_X5_undo
  by_cases q : g = 0
  · subst q
    refine ok_bd (fun o => o = (Sum.inr "java/lang/IllegalStateException", old, nI n, P, L, M, Y, nI 0)) (ok_t rfl (ok_s rfl)) ?_
    rintro _ rfl
    exact ok_u8 (ok_t rfl (ok_s (ok_t rfl (ok_fails (ok_s ⟨an_k n10, hst⟩)))))
  · have hg6 := h2.1
    obtain ⟨f, rfl⟩ : ∃ f, g = f + 1 := ⟨g - 1, by omega⟩
    obtain ⟨m, e1, h4⟩ := h2.2 f (by omega)
    refine ok_bd (fun o => ∃ P' L' M' Y' : _, o = (Sum.inl (nI f), 1, nI m, P', L', M', Y', nI f) ∧ sh4 m (hP f) (hL f) (hM f) (hY f) P' L' M' Y') (ok_f (nI_ne0 (by omega) (by omega)) (ok_bd _ (restL_e h4.1 (by omega) e1) ?_)) ?_
    · rintro ⟨o2, o3, o4, o5, o6, o7⟩ ⟨e2, e3, h5⟩
      dsimp only at e2 e3
      subst e2 e3
      exact ok_u6 (ok_s ⟨o4, o5, o6, o7, rfl, h5⟩)
    · rintro _ ⟨P', L', M', Y', rfl, h5⟩
      refine ok_u8 (ok_wrL (ok_s (ok_f (nI_ne0 (by omega) (by omega)) ?_)))
      rw [nI_pred, nI_41m]
      refine ok_bd _ (copies_e (a := 41 * f) (c := 0) (n0 := 246) (n1 := 41) (by omega) (by omega) (by decide) (by decide)) ?_
      rintro o2 ⟨hc, -⟩
      simp only [Nat.zero_add] at hc
      exact ok_u1 (ok_s ⟨an_0 rfl, m, f, rfl, rfl, rfl, shR_cg h4 h5 hc, ⟨by omega, fun i hi => h2.2 i (by omega)⟩, rsG_1⟩)
theorem t_bookOf {p1 p2 : Int32} (h : stR sN old hs kept P L M Y hN hP hL hM hY now past c any rs bef beh fy ly aB aH tab) :
    Ok (f_L_bookOf p1 p2 old sN P L M Y c any rs bef beh fy ly aB aH out) (fun o => Ok (f_X5_bookOf p1 p2 th now f2 f3) (fun o' => anR o.1 o.2.2.2.2.2.2.2.2.2.2.2 o'.1 o'.2.1 ∧ stR sN o.2.1 hs kept P L M Y hN hP hL hM hY now past o.2.2.1 o.2.2.2.1 o.2.2.2.2.1 o.2.2.2.2.2.1 o.2.2.2.2.2.2.1 o.2.2.2.2.2.2.2.1 o.2.2.2.2.2.2.2.2.1 o.2.2.2.2.2.2.2.2.2.1 o.2.2.2.2.2.2.2.2.2.2.1 tab)) := by
  obtain ⟨n, g, rfl, rfl, rfl, h1, h2, h3⟩ := h
  have hst : stR (nI n) old (nI g) (nI g) P L M Y hN hP hL hM hY now past c any rs bef beh fy ly aB aH tab := ⟨n, g, rfl, rfl, rfl, h1, h2, h3⟩
  have hn := h1.1
  have hY0 := h1.2.1
  have hw := h1.2.2.2
  unfold f_L_bookOf f_X4_bookOf f_X5_bookOf
  by_cases c1n : ¬ (0 ≤ p1 ∧ p1 < nI n)
  · refine ok_bd (fun o => o = (Sum.inr "java/lang/IndexOutOfBoundsException", old, c, any, rs, bef, beh, fy, ly, aB, aH)) (ok_c0 (isBook_e p1 n) c1n (ok_t rfl (ok_s rfl))) ?_
    rintro _ rfl
    exact ok_u11 (ok_t rfl (ok_s (ok_c0 (mBook_e p1 hn hw) c1n (ok_t rfl (ok_fails (ok_s ⟨an_k n10, hst⟩))))))
  have c1 := Decidable.not_not.mp c1n
  by_cases c2n : ¬ (0 ≤ p2 ∧ p2 ≤ 10)
  · refine ok_bd (fun o => o = (Sum.inr "java/lang/IllegalArgumentException", old, c, any, rs, bef, beh, fy, ly, aB, aH)) (ok_c1 (isBook_e p1 n) c1 (ok_f (by decide) (ok_jd (ok_if (fun _ => ok_u0 (ok_s rfl)) (fun q => ok_f (fun z => c2n ⟨i_nlt.mp q, z⟩) (ok_u0 (ok_s rfl))))))) ?_
    rintro _ rfl
    exact ok_u11 (ok_f (by decide) (ok_t rfl (ok_s (ok_c1 (mBook_e p1 hn hw) c1 (ok_f (by decide) (ok_c0 f_in_e c2n (ok_jd (ok_t rfl (ok_fails (ok_u4 (ok_s ⟨an_k n20, hst⟩)))))))))))
  have c2 := Decidable.not_not.mp c2n
  obtain ⟨b, hb, rfl⟩ := bk_of hn c1
  refine ok_bd (fun o => ∃ q1 q2 q3 q4 q5 q6 q7 q8 q9 q10 : _, o = (Sum.inl (nBk (eB P L M Y) n P L M Y b p2), q1, q2, q3, q4, q5, q6, q7, q8, q9, q10) ∧ rsG (eB P L M Y) n Y q1 q2 q3 q4 q5 q6 q7 q8 q9 q10 tab) (ok_c1 (isBook_e (nI b) n) c1 (ok_f (by decide) (ok_jd (ok_f (i_nlt.mpr c2.1) (ok_t c2.2 (ok_bd _ (nBook_e hn hb hY0 h1.2.2.1 c2.1 c2.2 h3) ?_)))))) ?_
  · rintro ⟨r, q1, q2, q3, q4, q5, q6, q7, q8, q9, q10⟩ ⟨e1, h4⟩
    dsimp only at e1
    subst e1
    exact ok_u11 (ok_s ⟨q1, q2, q3, q4, q5, q6, q7, q8, q9, q10, rfl, h4⟩)
  · rintro _ ⟨q1, q2, q3, q4, q5, q6, q7, q8, q9, q10, rfl, h4⟩
    refine ok_u11 (ok_wrL (ok_s (ok_c1 (mBook_e (nI b) hn hw) c1 (ok_f (by decide) (ok_c1 f_in_e c2 (ok_jd (ok_f (by decide) (ok_bd _ (ofBook_e hn hb hY0 h1.2.2.1 c2.1 c2.2 hw) ?_))))))))
    rintro ⟨r, o11, o12⟩ e1
    dsimp only at e1
    subst e1
    exact ok_u3 (ok_u4 (ok_s ⟨an_0 rfl, n, g, rfl, rfl, rfl, h1, h2, h4⟩))
theorem t_ahead {p1 p2 : Int32} (h : stR sN old hs kept P L M Y hN hP hL hM hY now past c any rs bef beh fy ly aB aH tab) :
    Ok (f_L_ahead p1 p2 sN P L M Y out) (fun o => Ok (f_X5_ahead p1 p2 th now) (fun o' => anR o.1 o.2 o'.1 o'.2)) := by
  obtain ⟨n, g, rfl, rfl, rfl, h1, h2, h3⟩ := h
  have hst : stR (nI n) old (nI g) (nI g) P L M Y hN hP hL hM hY now past c any rs bef beh fy ly aB aH tab := ⟨n, g, rfl, rfl, rfl, h1, h2, h3⟩
  have hn := h1.1
  have hY0 := h1.2.1
  have hw := h1.2.2.2
  unfold f_L_ahead f_X4_ahead f_X5_ahead
  by_cases c1n : ¬ (0 ≤ p1 ∧ p1 < nI n)
  · refine ok_bd (fun o => o = Sum.inr "java/lang/IndexOutOfBoundsException") (ok_c0 (isBook_e p1 n) c1n (ok_jd (ok_t rfl (ok_u0 (ok_s rfl))))) ?_
    rintro _ rfl
    exact ok_u1 (ok_t rfl (ok_s (ok_c0 (mBook_e p1 hn hw) c1n (ok_jd (ok_t rfl (ok_u0 (ok_fails (ok_s (an_k n10)))))))))
  have c1 := Decidable.not_not.mp c1n
  by_cases c2n : ¬ (0 ≤ p2 ∧ p2 < nI n)
  · refine ok_bd (fun o => o = Sum.inr "java/lang/IndexOutOfBoundsException") (ok_c1 (isBook_e p1 n) c1 (ok_jd (ok_f (by decide) (ok_c0 (isBook_e p2 n) c2n (ok_t rfl (ok_u0 (ok_s rfl))))))) ?_
    rintro _ rfl
    exact ok_u1 (ok_t rfl (ok_s (ok_c1 (mBook_e p1 hn hw) c1 (ok_jd (ok_f (by decide) (ok_c0 (mBook_e p2 hn hw) c2n (ok_t rfl (ok_u0 (ok_fails (ok_s (an_k n10)))))))))))
  have c2 := Decidable.not_not.mp c2n
  by_cases c3 : p1 = p2
  · refine ok_bd (fun o => o = Sum.inr "java/lang/IllegalArgumentException") (ok_c1 (isBook_e p1 n) c1 (ok_jd (ok_f (by decide) (ok_c1 (isBook_e p2 n) c2 (ok_f (by decide) (ok_t c3 (ok_s rfl))))))) ?_
    rintro _ rfl
    exact ok_u1 (ok_f (by decide) (ok_t rfl (ok_s (ok_c1 (mBook_e p1 hn hw) c1 (ok_jd (ok_f (by decide) (ok_c1 (mBook_e p2 hn hw) c2 (ok_f (by decide) (ok_jd (ok_t c3 (ok_fails (ok_u2 (ok_s (an_k n20))))))))))))))
  · obtain ⟨a, ha, rfl⟩ := bk_of hn c1
    obtain ⟨b, hb, rfl⟩ := bk_of hn c2
    refine ok_bd (fun o => o = Sum.inl (spBy P L M Y a b)) (ok_c1 (isBook_e (nI a) n) c1 (ok_jd (ok_f (by decide) (ok_c1 (isBook_e (nI b) n) c2 (ok_f (by decide) (ok_f c3 (ok_be (re_e hn hY0 ha hb) (ok_u1 (ok_s rfl))))))))) ?_
    rintro _ rfl
    exact ok_u1 (ok_wrL (ok_s (ok_c1 (mBook_e (nI a) hn hw) c1 (ok_jd (ok_f (by decide) (ok_c1 (mBook_e (nI b) hn hw) c2 (ok_f (by decide) (ok_jd (ok_f c3 (ok_be (by_m hn hw ha hb) (ok_u1 (ok_u2 (ok_s (an_0 rfl))))))))))))))
theorem t_count {p1 : Int32} (h : stR sN old hs kept P L M Y hN hP hL hM hY now past c any rs bef beh fy ly aB aH tab) :
    Ok (f_L_count p1 old sN P L M Y hs c any rs bef beh fy ly aB aH tab out) (fun o => Ok (f_X5_count p1 kept th now f2 f3 f4) (fun o' => anR o.1 o.2.2.2.2.2.2.2.2.2.2.2.2 o'.1 o'.2.1 ∧ stR sN o.2.1 hs kept P L M Y hN hP hL hM hY now past o.2.2.1 o.2.2.2.1 o.2.2.2.2.1 o.2.2.2.2.2.1 o.2.2.2.2.2.2.1 o.2.2.2.2.2.2.2.1 o.2.2.2.2.2.2.2.2.1 o.2.2.2.2.2.2.2.2.2.1 o.2.2.2.2.2.2.2.2.2.2.1 o.2.2.2.2.2.2.2.2.2.2.2.1)) := by
  obtain ⟨n, g, rfl, rfl, rfl, h1, h2, h3⟩ := h
  have hst : stR (nI n) old (nI g) (nI g) P L M Y hN hP hL hM hY now past c any rs bef beh fy ly aB aH tab := ⟨n, g, rfl, rfl, rfl, h1, h2, h3⟩
  have hn := h1.1
  have hY0 := h1.2.1
  have hw := h1.2.2.2
  unfold f_L_count f_X4_count f_X5_count
  by_cases c2n : ¬ (0 ≤ p1 ∧ p1 ≤ 9)
  · refine ok_bd (fun o => o = (Sum.inr "java/lang/IllegalArgumentException", old, c, any, rs, bef, beh, fy, ly, aB, aH, tab)) (ok_jd (ok_if (fun _ => ok_u0 (ok_s rfl)) (fun q => ok_f (fun z => c2n ⟨i_nlt.mp q, z⟩) (ok_u0 (ok_s rfl))))) ?_
    rintro _ rfl
    exact ok_u12 (ok_t rfl (ok_s (ok_c0 f_in_e c2n (ok_jd (ok_t rfl (ok_fails (ok_u5 (ok_s ⟨an_k n10, hst⟩))))))))
  have c2 := Decidable.not_not.mp c2n
  refine ok_bd (fun o => ∃ q1 q2 q3 q4 q5 q6 q7 q8 q9 q10 q11 : _, o = (Sum.inl (nAl (eB P L M Y) n P Y (nI g) p1), q1, q2, q3, q4, q5, q6, q7, q8, q9, q10, q11) ∧ rsG (eB P L M Y) n Y q1 q2 q3 q4 q5 q6 q7 q8 q9 q10 q11) (ok_jd (ok_f (i_nlt.mpr c2.1) (ok_t c2.2 (ok_bd _ (nAll_e hn hY0 c2.1 h3) ?_)))) ?_
  · rintro ⟨r, q1, q2, q3, q4, q5, q6, q7, q8, q9, q10, q11⟩ ⟨e1, h4⟩
    dsimp only at e1
    subst e1
    exact ok_u12 (ok_s ⟨q1, q2, q3, q4, q5, q6, q7, q8, q9, q10, q11, rfl, h4⟩)
  · rintro _ ⟨q1, q2, q3, q4, q5, q6, q7, q8, q9, q10, q11, rfl, h4⟩
    refine ok_u12 (ok_wrL (ok_s (ok_c1 f_in_e c2 (ok_jd (ok_f (by decide) (ok_bd _ (counted_e hn hY0 hw c2.1) ?_))))))
    rintro ⟨r, o11, o12, o13⟩ e1
    dsimp only at e1
    subst e1
    exact ok_u4 (ok_u5 (ok_s ⟨an_0 rfl, n, g, rfl, rfl, rfl, h1, h2, h4⟩))
theorem t_order {p1 : Int32} (h : stR sN old hs kept P L M Y hN hP hL hM hY now past c any rs bef beh fy ly aB aH tab) :
    Ok (f_L_order p1 old sN P L M Y c any rs bef beh fy ly aB aH out) (fun o => Ok (f_X5_order p1 th now f2 f3) (fun o' => anR o.1 o.2.2.2.2.2.2.2.2.2.2.2 o'.1 o'.2.1 ∧ stR sN o.2.1 hs kept P L M Y hN hP hL hM hY now past o.2.2.1 o.2.2.2.1 o.2.2.2.2.1 o.2.2.2.2.2.1 o.2.2.2.2.2.2.1 o.2.2.2.2.2.2.2.1 o.2.2.2.2.2.2.2.2.1 o.2.2.2.2.2.2.2.2.2.1 o.2.2.2.2.2.2.2.2.2.2.1 tab)) := by
  obtain ⟨n, g, rfl, rfl, rfl, h1, h2, h3⟩ := h
  have hst : stR (nI n) old (nI g) (nI g) P L M Y hN hP hL hM hY now past c any rs bef beh fy ly aB aH tab := ⟨n, g, rfl, rfl, rfl, h1, h2, h3⟩
  have hn := h1.1
  have hY0 := h1.2.1
  have hw := h1.2.2.2
  unfold f_L_order f_X4_order f_X5_order
  by_cases c1 : 0 ≤ p1
  · refine ok_bd (fun o => ∃ q1 q2 q3 q4 q5 q6 q7 q8 q9 q10 : _, o = (Sum.inl (ordV (eB P L M Y) n p1), q1, q2, q3, q4, q5, q6, q7, q8, q9, q10) ∧ rsG (eB P L M Y) n Y q1 q2 q3 q4 q5 q6 q7 q8 q9 q10 tab) (ok_t c1 (ok_bd _ (cr_e hn hY0 h3) ?_)) ?_
    · rintro ⟨o2, o3, o4, o5, o6, o7, o8, o9, o10, o11⟩ ⟨a1, a2, a3⟩
      have e := a2.1
      dsimp only at a1 a2 a3 e
      subst a1 e
      exact ok_u10 (ok_be (firstOrder_e hn c1 (fun b hb => (a2.2.2 b hb).1.1) a2.2.1) (ok_u1 (ok_s ⟨_, _, _, _, _, _, _, _, _, _, rfl, Or.inl rfl, fun _ => ⟨a2, a3⟩⟩)))
    · rintro _ ⟨q1, q2, q3, q4, q5, q6, q7, q8, q9, q10, rfl, h4⟩
      refine ok_u11 (ok_wrL (ok_s (ok_jd (ok_t c1 (ok_bd _ (ordered_e hn c1 hw) ?_)))))
      rintro ⟨r, o11, o12⟩ e1
      dsimp only at e1
      subst e1
      exact ok_u3 (ok_u4 (ok_s ⟨an_0 rfl, n, g, rfl, rfl, rfl, h1, h2, h4⟩))
  · refine ok_bd (fun o => o = (Sum.inr "java/lang/IllegalArgumentException", old, c, any, rs, bef, beh, fy, ly, aB, aH)) (ok_f c1 (ok_s rfl)) ?_
    rintro _ rfl
    exact ok_u11 (ok_t rfl (ok_s (ok_jd (ok_f c1 (ok_fails (ok_u4 (ok_s ⟨an_k n10, hst⟩)))))))
theorem t_place {p1 p2 : Int32} (h : stR sN old hs kept P L M Y hN hP hL hM hY now past c any rs bef beh fy ly aB aH tab) :
    Ok (f_L_place p1 p2 old sN P L M Y c any rs bef beh fy ly aB aH tab out) (fun o => Ok (f_X5_place p1 p2 th now f2 f3) (fun o' => anR o.1 o.2.2.2.2.2.2.2.2.2.2.2.2 o'.1 o'.2.1 ∧ stR sN o.2.1 hs kept P L M Y hN hP hL hM hY now past o.2.2.1 o.2.2.2.1 o.2.2.2.2.1 o.2.2.2.2.2.1 o.2.2.2.2.2.2.1 o.2.2.2.2.2.2.2.1 o.2.2.2.2.2.2.2.2.1 o.2.2.2.2.2.2.2.2.2.1 o.2.2.2.2.2.2.2.2.2.2.1 o.2.2.2.2.2.2.2.2.2.2.2.1)) := by
  obtain ⟨n, g, rfl, rfl, rfl, h1, h2, h3⟩ := h
  have hst : stR (nI n) old (nI g) (nI g) P L M Y hN hP hL hM hY now past c any rs bef beh fy ly aB aH tab := ⟨n, g, rfl, rfl, rfl, h1, h2, h3⟩
  have hn := h1.1
  have hY0 := h1.2.1
  have hw := h1.2.2.2
  unfold f_L_place f_X4_place f_X5_place
  by_cases c1n : ¬ (0 ≤ p1 ∧ p1 < nI n)
  · refine ok_bd (fun o => o = (Sum.inr "java/lang/IndexOutOfBoundsException", old, c, any, rs, bef, beh, fy, ly, aB, aH, tab)) (ok_c0 (isBook_e p1 n) c1n (ok_t rfl (ok_s rfl))) ?_
    rintro _ rfl
    exact ok_u12 (ok_t rfl (ok_s (ok_c0 (mBook_e p1 hn hw) c1n (ok_t rfl (ok_fails (ok_s ⟨an_k n10, hst⟩))))))
  have c1 := Decidable.not_not.mp c1n
  by_cases c2n : ¬ (0 ≤ p2 ∧ p2 ≤ 2)
  · refine ok_bd (fun o => o = (Sum.inr "java/lang/IllegalArgumentException", old, c, any, rs, bef, beh, fy, ly, aB, aH, tab)) (ok_c1 (isBook_e p1 n) c1 (ok_f (by decide) (ok_jd (ok_if (fun _ => ok_u0 (ok_s rfl)) (fun q => ok_f (fun z => c2n ⟨i_nlt.mp q, z⟩) (ok_u0 (ok_s rfl))))))) ?_
    rintro _ rfl
    exact ok_u12 (ok_f (by decide) (ok_t rfl (ok_s (ok_c1 (mBook_e p1 hn hw) c1 (ok_f (by decide) (ok_c0 f_in_e c2n (ok_jd (ok_t rfl (ok_fails (ok_u4 (ok_s ⟨an_k n20, hst⟩)))))))))))
  have c2 := Decidable.not_not.mp c2n
  obtain ⟨b, hb, rfl⟩ := bk_of hn c1
  have hp2 : p2 = 0 ∨ p2 = 1 ∨ p2 = 2 := by
    obtain ⟨k, hk, rfl⟩ := w_cases 2 c2.1 c2.2 (by decide)
    match k, hk with
    | 0, _ => exact Or.inl rfl
    | 1, _ => exact Or.inr (Or.inl rfl)
    | 2, _ => exact Or.inr (Or.inr rfl)
    | k + 3, hk => omega
  refine ok_bd (fun o => ∃ q1 q2 q3 q4 q5 q6 q7 q8 q9 q10 q11 : _, o = (Sum.inl (nPl (eB P L M Y) n b p2), q1, q2, q3, q4, q5, q6, q7, q8, q9, q10, q11) ∧ rsG (eB P L M Y) n Y q1 q2 q3 q4 q5 q6 q7 q8 q9 q10 q11) (ok_c1 (isBook_e (nI b) n) c1 (ok_f (by decide) (ok_jd (ok_f (i_nlt.mpr c2.1) (ok_t c2.2 (ok_bd _ (nPlace_e hn hb hY0 hp2 h3) ?_)))))) ?_
  · rintro ⟨r, q1, q2, q3, q4, q5, q6, q7, q8, q9, q10, q11⟩ ⟨e1, h4⟩
    dsimp only at e1
    subst e1
    exact ok_u12 (ok_s ⟨q1, q2, q3, q4, q5, q6, q7, q8, q9, q10, q11, rfl, h4⟩)
  · rintro _ ⟨q1, q2, q3, q4, q5, q6, q7, q8, q9, q10, q11, rfl, h4⟩
    refine ok_u12 (ok_wrL (ok_s (ok_c1 (mBook_e (nI b) hn hw) c1 (ok_f (by decide) (ok_c1 f_in_e c2 (ok_jd (ok_f (by decide) (ok_bd _ (stands_e hn hw hb hp2) ?_))))))))
    rintro ⟨r, o11, o12⟩ e1
    dsimp only at e1
    subst e1
    exact ok_u3 (ok_u4 (ok_s ⟨an_0 rfl, n, g, rfl, rfl, rfl, h1, h2, h4⟩))
theorem t_wrong {p1 : Int32} (h : stR sN old hs kept P L M Y hN hP hL hM hY now past c any rs bef beh fy ly aB aH tab) :
    Ok (f_L_wrong p1 old sN P L M Y c any rs bef beh fy ly aB aH tab out) (fun o => Ok (f_X5_wrong p1 th now f2 f3) (fun o' => anR o.1 o.2.2.2.2.2.2.2.2.2.2.2.2 o'.1 o'.2.1 ∧ stR sN o.2.1 hs kept P L M Y hN hP hL hM hY now past o.2.2.1 o.2.2.2.1 o.2.2.2.2.1 o.2.2.2.2.2.1 o.2.2.2.2.2.2.1 o.2.2.2.2.2.2.2.1 o.2.2.2.2.2.2.2.2.1 o.2.2.2.2.2.2.2.2.2.1 o.2.2.2.2.2.2.2.2.2.2.1 o.2.2.2.2.2.2.2.2.2.2.2.1)) := by
  obtain ⟨n, g, rfl, rfl, rfl, h1, h2, h3⟩ := h
  have hst : stR (nI n) old (nI g) (nI g) P L M Y hN hP hL hM hY now past c any rs bef beh fy ly aB aH tab := ⟨n, g, rfl, rfl, rfl, h1, h2, h3⟩
  have hn := h1.1
  have hY0 := h1.2.1
  have hw := h1.2.2.2
  unfold f_L_wrong f_X4_wrong f_X5_wrong
  by_cases c2n : ¬ (0 ≤ p1 ∧ p1 ≤ 1)
  · refine ok_bd (fun o => o = (Sum.inr "java/lang/IllegalArgumentException", old, c, any, rs, bef, beh, fy, ly, aB, aH, tab)) (ok_jd (ok_f (fun z => c2n (by subst z; decide)) (ok_f (fun z => c2n (by subst z; decide)) (ok_s rfl)))) ?_
    rintro _ rfl
    exact ok_u12 (ok_t rfl (ok_s (ok_c0 f_in_e c2n (ok_t rfl (ok_fails (ok_s ⟨an_k n10, hst⟩))))))
  have c2 := Decidable.not_not.mp c2n
  have hp : p1 = 0 ∨ p1 = 1 := by
    obtain ⟨k, hk, rfl⟩ := w_cases 1 c2.1 c2.2 (by decide)
    match k, hk with
    | 0, _ => exact Or.inl rfl
    | 1, _ => exact Or.inr rfl
    | k + 2, hk => omega
  refine ok_bd (fun o => ∃ q1 q2 q3 q4 q5 q6 q7 q8 q9 q10 q11 : _, o = (Sum.inl (if p1 = 0 then nI (cd n (outN (eB P L M Y) n)) else nI (outN (eB P L M Y) n)), q1, q2, q3, q4, q5, q6, q7, q8, q9, q10, q11) ∧ rsG (eB P L M Y) n Y q1 q2 q3 q4 q5 q6 q7 q8 q9 q10 q11) ?_ ?_
  · refine ok_jn (fun _ => True) ?_ ?_
    · intro _ _
      refine ok_u0 (ok_bd _ (cr_e hn hY0 h3) ?_)
      rintro ⟨o2, o3, o4, o5, o6, o7, o8, o9, o10, o11⟩ ⟨a1, a2, a3⟩
      have e := a2.1
      dsimp only at a1 a2 a3 e
      subst a1 e
      refine ok_u10 (ok_bd _ (leastWrong_e hn (fun b hb => (a2.2.2 b hb).1.1) a2.2.1 a3) ?_)
      rintro ⟨r13, o14, o15⟩ ⟨e1, ht⟩
      dsimp only at e1 ht
      subst e1
      refine ok_u3 (ok_jd ?_)
      by_cases q : p1 = 0
      · refine ok_t q (ok_be (bc_e hn (bs_lt _ n _ (Nat.le_refl _))) (ok_u1 (ok_u1 (ok_s ⟨_, _, _, _, _, _, _, _, _, _, _, by rw [if_pos q], Or.inl rfl, fun _ => ⟨a2, ht⟩⟩))))
      · exact ok_f q (ok_u1 (ok_s ⟨_, _, _, _, _, _, _, _, _, _, _, by rw [if_neg q], Or.inl rfl, fun _ => ⟨a2, ht⟩⟩))
    · intro K hK
      rcases hp with rfl | rfl
      · exact ok_t rfl (hK () trivial)
      · exact ok_f (by decide) (ok_t rfl (hK () trivial))
  · rintro _ ⟨q1, q2, q3, q4, q5, q6, q7, q8, q9, q10, q11, rfl, h4⟩
    refine ok_u12 (ok_wrL (ok_s (ok_c1 f_in_e c2 (ok_f (by decide) (ok_bd _ (leftOut_e hn hw) ?_)))))
    rintro ⟨r, o11, o12⟩ e1
    dsimp only at e1
    subst e1
    refine ok_u3 (ok_jd ?_)
    by_cases q : p1 = 0
    · exact ok_t q (ok_be (on_e hn (bs_lt _ n _ (Nat.le_refl _))) (ok_u1 (ok_u1 (ok_s ⟨an_0 (by rw [if_pos q]), n, g, rfl, rfl, rfl, h1, h2, h4⟩))))
    · exact ok_f q (ok_u1 (ok_s ⟨an_0 (by rw [if_neg q]), n, g, rfl, rfl, rfl, h1, h2, h4⟩))
theorem t_tells {p1 z c' any' sz' : Int32} {s1 s2 s3 s4 a1 a2 a3 a4 a5 a6 tb : Nat → Int32} (h : stR sN old hs kept P L M Y hN hP hL hM hY now past c any rs bef beh fy ly aB aH tab) :
    Ok (f_L_tells p1 old sN P L M Y z s1 s2 s3 s4 c any rs bef beh fy ly aB aH tab c' any' sz' a1 a2 a3 a4 a5 a6 tb out) (fun o => Ok (f_X5_tells p1 th now f2 f3 f4) (fun o' => anR o.1 o.2.2.2.2.2.2.2.2.2.2.2.2.2.2.2.2.2.2.2.2.2.2.2.2.2.2.2 o'.1 o'.2.1 ∧ stR sN o.2.1 hs kept P L M Y hN hP hL hM hY now past o.2.2.2.2.2.2.2.1 o.2.2.2.2.2.2.2.2.1 o.2.2.2.2.2.2.2.2.2.1 o.2.2.2.2.2.2.2.2.2.2.1 o.2.2.2.2.2.2.2.2.2.2.2.1 o.2.2.2.2.2.2.2.2.2.2.2.2.1 o.2.2.2.2.2.2.2.2.2.2.2.2.2.1 o.2.2.2.2.2.2.2.2.2.2.2.2.2.2.1 o.2.2.2.2.2.2.2.2.2.2.2.2.2.2.2.1 o.2.2.2.2.2.2.2.2.2.2.2.2.2.2.2.2.1)) := by
  obtain ⟨n, g, rfl, rfl, rfl, h1, h2, h3⟩ := h
  have hst : stR (nI n) old (nI g) (nI g) P L M Y hN hP hL hM hY now past c any rs bef beh fy ly aB aH tab := ⟨n, g, rfl, rfl, rfl, h1, h2, h3⟩
  have hn := h1.1
  have hY0 := h1.2.1
  have hw := h1.2.2.2
  unfold f_L_tells f_X4_tells f_X5_tells
  by_cases c1n : ¬ (0 ≤ p1 ∧ p1 ≤ 11)
  · refine ok_bd (fun o => o = (Sum.inr "java/lang/IndexOutOfBoundsException", old, z, s1, s2, s3, s4, c, any, rs, bef, beh, fy, ly, aB, aH, tab, c', any', sz', a1, a2, a3, a4, a5, a6, tb)) (ok_c0 (isLetter_e p1) c1n (ok_t rfl (ok_s rfl))) ?_
    rintro _ rfl
    exact ok_u27 (ok_t rfl (ok_s (ok_c0 (mLetter_e p1) c1n (ok_jd (ok_t rfl (ok_fails (ok_u5 (ok_s ⟨an_k n10, hst⟩))))))))
  have c1 := Decidable.not_not.mp c1n
  refine ok_bd (fun o => o.1 = Sum.inl (nTl P L M Y n p1) ∧ rsG (eB P L M Y) n Y o.2.1 o.2.2.2.2.2.2.2.1 o.2.2.2.2.2.2.2.2.1 o.2.2.2.2.2.2.2.2.2.1 o.2.2.2.2.2.2.2.2.2.2.1 o.2.2.2.2.2.2.2.2.2.2.2.1 o.2.2.2.2.2.2.2.2.2.2.2.2.1 o.2.2.2.2.2.2.2.2.2.2.2.2.2.1 o.2.2.2.2.2.2.2.2.2.2.2.2.2.2.1 o.2.2.2.2.2.2.2.2.2.2.2.2.2.2.2.1 o.2.2.2.2.2.2.2.2.2.2.2.2.2.2.2.2.1) (ok_c1 (isLetter_e p1) c1 (ok_f (by decide) (ok_bd _ (owl_e hn hY0) ?_))) ?_
  · rintro ⟨r110, o111, o112, o113, o114, o115, o116, o117, o118, o119, o120, o121, o122, o123, o124, o125⟩ e1
    dsimp only at e1
    subst e1
    refine ok_u16 (ok_bd _ (cr_e hn hY0 h3) ?_)
    rintro ⟨o2, o3, o4, o5, o6, o7, o8, o9, o10, o11⟩ ⟨a1, a2, a3⟩
    refine ok_u10 (ok_bd _ (orV_e hn a2 a3) ?_)
    rintro ⟨r29, o30, o31⟩ ⟨e1, ht⟩
    dsimp only at a1 e1
    subst a1 e1
    exact ok_u3 (ok_s ⟨rfl, Or.inl rfl, fun _ => ⟨a2, ht⟩⟩)
  · rintro ⟨r0, q1, q2, q3, q4, q5, q6, q7, q8, q9, q10, q11, q12, q13, q14, q15, q16, q17, q18, q19, q20, q21, q22, q23, q24, q25, q26⟩ ⟨e1, h4⟩
    dsimp only at e1
    subst e1
    refine ok_u27 (ok_wrL (ok_s (ok_c1 (mLetter_e p1) c1 (ok_jd (ok_f (by decide) (ok_bd _ (more_e hn hw) ?_))))))
    rintro ⟨r, o11, o12, o13⟩ e1
    dsimp only at e1
    subst e1
    exact ok_u4 (ok_u5 (ok_s ⟨an_0 rfl, n, g, rfl, rfl, rfl, h1, h2, h4⟩))
theorem t_ifYear {p1 p2 p3 z c' any' sz' : Int32} {s1 s2 s3 s4 a1 a2 a3 a4 a5 a6 tb : Nat → Int32} (h : stR sN old hs kept P L M Y hN hP hL hM hY now past c any rs bef beh fy ly aB aH tab) :
    Ok (f_L_ifYear p1 p2 p3 sN P L M Y z s1 s2 s3 s4 c' any' sz' a1 a2 a3 a4 a5 a6 tb out) (fun o => Ok (f_X5_ifYear p1 p2 p3 th now f2 f3 f4 f5) (fun o' => anR o.1 o.2.2.2.2.2.2.2.2.2.2.2.2.2.2.2.2 o'.1 o'.2.1)) := by
  obtain ⟨n, g, rfl, rfl, rfl, h1, h2, h3⟩ := h
  have hst : stR (nI n) old (nI g) (nI g) P L M Y hN hP hL hM hY now past c any rs bef beh fy ly aB aH tab := ⟨n, g, rfl, rfl, rfl, h1, h2, h3⟩
  have hn := h1.1
  have hY0 := h1.2.1
  have hw := h1.2.2.2
  unfold f_L_ifYear f_X4_ifYear f_X5_ifYear
  by_cases c1n : ¬ (0 ≤ p1 ∧ p1 < nI n)
  · refine ok_bd (fun o => o = (Sum.inr "java/lang/IndexOutOfBoundsException", z, s1, s2, s3, s4, c', any', sz', a1, a2, a3, a4, a5, a6, tb)) (ok_c0 (isBook_e p1 n) c1n (ok_t rfl (ok_s rfl))) ?_
    rintro _ rfl
    exact ok_u16 (ok_t rfl (ok_s (ok_c0 (mBook_e p1 hn hw) c1n (ok_t rfl (ok_fails (ok_s (an_k n10)))))))
  have c1 := Decidable.not_not.mp c1n
  by_cases c2n : ¬ (1450 ≤ p2 ∧ p2 ≤ 1999)
  · refine ok_bd (fun o => o = (Sum.inr "java/lang/IllegalArgumentException", z, s1, s2, s3, s4, c', any', sz', a1, a2, a3, a4, a5, a6, tb)) (ok_c1 (isBook_e p1 n) c1 (ok_f (by decide) (ok_c0 (isYear_e p2) c2n (ok_jd (ok_t rfl (ok_u0 (ok_s rfl))))))) ?_
    rintro _ rfl
    exact ok_u16 (ok_f (by decide) (ok_t rfl (ok_s (ok_c1 (mBook_e p1 hn hw) c1 (ok_f (by decide) (ok_c0 f_in_e c2n (ok_jd (ok_jd (ok_t rfl (ok_u0 (ok_fails (ok_u6 (ok_s (an_k n20))))))))))))))
  have c2 := Decidable.not_not.mp c2n
  by_cases c3n : ¬ (0 ≤ p3 ∧ p3 ≤ 1)
  · refine ok_bd (fun o => o = (Sum.inr "java/lang/IllegalArgumentException", z, s1, s2, s3, s4, c', any', sz', a1, a2, a3, a4, a5, a6, tb)) (ok_c1 (isBook_e p1 n) c1 (ok_f (by decide) (ok_c1 (isYear_e p2) c2 (ok_jd (ok_f (by decide) (ok_jd (ok_f (fun z => c3n (by subst z; decide)) (ok_f (fun z => c3n (by subst z; decide)) (ok_u0 (ok_s rfl)))))))))) ?_
    rintro _ rfl
    exact ok_u16 (ok_f (by decide) (ok_t rfl (ok_s (ok_c1 (mBook_e p1 hn hw) c1 (ok_f (by decide) (ok_c1 f_in_e c2 (ok_jd (ok_jd (ok_f (by decide) (ok_c0 f_in_e c3n (ok_t rfl (ok_u0 (ok_fails (ok_u6 (ok_s (an_k n20))))))))))))))))
  have c3 := Decidable.not_not.mp c3n
  obtain ⟨b, hb, rfl⟩ := bk_of hn c1
  have hp : p3 = 0 ∨ p3 = 1 := by
    obtain ⟨k, hk, rfl⟩ := w_cases 1 c3.1 c3.2 (by decide)
    match k, hk with
    | 0, _ => exact Or.inl rfl
    | 1, _ => exact Or.inr rfl
    | k + 2, hk => omega
  refine ok_bd (fun o => o.1 = Sum.inl (nIy P L M Y n b p2 p3)) (ok_c1 (isBook_e (nI b) n) c1 (ok_f (by decide) (ok_c1 (isYear_e p2) c2 (ok_jd (ok_f (by decide) (ok_jn (fun _ => True) ?_ ?_)))))) ?_
  · intro _ _
    refine ok_u0 (ok_bd _ (nif_e hn hb hY0 c2) ?_)
    rintro ⟨r5, o6, o7, o8, o9, o10, o11, o12, o13, o14, o15, o16, o17, o18, o19, o20⟩ e1
    dsimp only at e1
    subst e1
    exact ok_u16 (ok_s rfl)
  · intro K hK
    rcases hp with rfl | rfl
    · exact ok_t rfl (hK () trivial)
    · exact ok_f (by decide) (ok_t rfl (hK () trivial))
  · rintro ⟨r0, q1, q2, q3, q4, q5, q6, q7, q8, q9, q10, q11, q12, q13, q14, q15⟩ e1
    dsimp only at e1
    subst e1
    refine ok_u16 (ok_wrL (ok_s (ok_c1 (mBook_e (nI b) hn hw) c1 (ok_f (by decide) (ok_c1 f_in_e c2 (ok_jd (ok_jd (ok_f (by decide) (ok_c1 f_in_e c3 (ok_f (by decide) (ok_bd _ (byYear_e hn hb hY0 c2 hw) ?_)))))))))))
    rintro ⟨r, o15, o16, o17, o18⟩ e1
    dsimp only at e1
    subst e1
    exact ok_u5 (ok_u6 (ok_s (an_0 rfl)))
theorem t_share (h : stR sN old hs kept P L M Y hN hP hL hM hY now past c any rs bef beh fy ly aB aH tab) :
    Ok (f_X4_datedShare old sN P L M Y c any rs bef beh fy ly aB aH) (fun o => Ok (f_X5_datedShare th now f2 f3) (fun o' => o.1 = o'.1 ∧ (∃ d m, m < 11 ∧ d < m + 1 ∧ o.1 = shV d m) ∧ stR sN o.2.1 hs kept P L M Y hN hP hL hM hY now past o.2.2.1 o.2.2.2.1 o.2.2.2.2.1 o.2.2.2.2.2.1 o.2.2.2.2.2.2.1 o.2.2.2.2.2.2.2.1 o.2.2.2.2.2.2.2.2.1 o.2.2.2.2.2.2.2.2.2.1 o.2.2.2.2.2.2.2.2.2.2 tab)) := by
  obtain ⟨n, g, rfl, rfl, rfl, h1, h2, h3⟩ := h
  have hst : stR (nI n) old (nI g) (nI g) P L M Y hN hP hL hM hY now past c any rs bef beh fy ly aB aH tab := ⟨n, g, rfl, rfl, rfl, h1, h2, h3⟩
  have hn := h1.1
  have hY0 := h1.2.1
  have hw := h1.2.2.2
  unfold f_X5_datedShare
  refine ok_mo (dShare_e hn hY0 h3) ?_
  rintro ⟨r, q1, q2, q3, q4, q5, q6, q7, q8, q9, q10⟩ ⟨e1, h4⟩
  dsimp only at e1
  subst e1
  refine ok_bd _ (share_e hn hY0 hw) ?_
  rintro ⟨r, o2, o3⟩ e1
  dsimp only at e1
  subst e1
  have hd := dtd_le n (fyV (eB P L M Y) n Y) (lyV (eB P L M Y) n Y)
  exact ok_u3 (ok_s ⟨rfl, ⟨_, n, by omega, by unfold dtdV; omega, rfl⟩, n, g, rfl, rfl, rfl, h1, h2, h4⟩)
/-- the text kept by both -/
def txR (len typed : Int32) (codes text : Nat → Int32) : Prop := ∃ t, t ≤ 60 ∧ len = nI t ∧ typed = nI t ∧ ∀ i, i < t → codes i = text i
theorem t_digest {len typed z c' any' sz' : Int32} {codes text s1 s2 s3 s4 a1 a2 a3 a4 a5 a6 tb : Nat → Int32} (h : stR sN old hs kept P L M Y hN hP hL hM hY now past c any rs bef beh fy ly aB aH tab) (ht : txR len typed codes text) :
    Ok (f_X4_digest len old sN P L M Y z s1 s2 s3 s4 hs c any rs bef beh fy ly aB aH tab c' any' sz' a1 a2 a3 a4 a5 a6 tb codes) (fun o => Ok (f_X5_digest kept typed th now f2 text f3 f4 f5) (fun o' => o.1 = o'.1 ∧ stR sN o.2.1 hs kept P L M Y hN hP hL hM hY now past o.2.2.2.2.2.2.2.1 o.2.2.2.2.2.2.2.2.1 o.2.2.2.2.2.2.2.2.2.1 o.2.2.2.2.2.2.2.2.2.2.1 o.2.2.2.2.2.2.2.2.2.2.2.1 o.2.2.2.2.2.2.2.2.2.2.2.2.1 o.2.2.2.2.2.2.2.2.2.2.2.2.2.1 o.2.2.2.2.2.2.2.2.2.2.2.2.2.2.1 o.2.2.2.2.2.2.2.2.2.2.2.2.2.2.2.1 o.2.2.2.2.2.2.2.2.2.2.2.2.2.2.2.2.1)) := by
  obtain ⟨n, g, rfl, rfl, rfl, h1, h2, h3⟩ := h
  have hst : stR (nI n) old (nI g) (nI g) P L M Y hN hP hL hM hY now past c any rs bef beh fy ly aB aH tab := ⟨n, g, rfl, rfl, rfl, h1, h2, h3⟩
  have hn := h1.1
  have hY0 := h1.2.1
  have hw := h1.2.2.2
  obtain ⟨t, ht1, rfl, rfl, ht2⟩ := ht
  refine ok_mo (digest_e hn ht1 hY0 h1.2.2.1 h3) ?_
  rintro ⟨r, q1, q2, q3, q4, q5, q6, q7, q8, q9, q10, q11, q12, q13, q14, q15, q16, q17, q18, q19, q20, q21, q22, q23, q24, q25, q26⟩ ⟨e1, h4⟩
  dsimp only at e1
  subst e1
  refine ok_mo (digestM_e hn ht1 hY0 h1.2.2.1 hw) ?_
  rintro ⟨r, o2, o3⟩ ⟨e1, -⟩
  refine ⟨?_, n, g, rfl, rfl, rfl, h1, h2, h4⟩
  dsimp only at e1 ⊢
  rw [e1]
  unfold dgV dg4
  rw [fl_cg t ht2]
theorem t_append {p1 len typed : Int32} {codes text : Nat → Int32} (ht : txR len typed codes text) :
    Ok (f_L_append p1 len codes out) (fun o => Ok (f_X5_append p1 typed th text) (fun o' => anR o.1 o.2.2.2 o'.1 o'.2.2.1 ∧ txR o.2.1 o'.2.1 o.2.2.1 o'.2.2.2)) := by
  have hst := ht
  obtain ⟨t, ht1, rfl, rfl, ht2⟩ := ht
  unfold f_L_append f_X4_append f_X5_append
  by_cases c1n : ¬ (33 ≤ p1 ∧ p1 ≤ 126)
  · refine ok_bd (fun o => o = (Sum.inr "java/lang/IllegalArgumentException", nI t, codes)) (ok_jd (ok_if (fun _ => ok_u0 (ok_s rfl)) (fun q => ok_f (fun z => c1n ⟨i_nlt.mp q, z⟩) (ok_u0 (ok_s rfl))))) ?_
    rintro _ rfl
    exact ok_u3 (ok_t rfl (ok_s (ok_c0 f_in_e c1n (ok_t rfl (ok_fails (ok_s ⟨an_k n10, hst⟩))))))
  have c1 := Decidable.not_not.mp c1n
  by_cases c2 : t = 60
  · subst c2
    refine ok_bd (fun o => o = (Sum.inr "java/lang/IllegalStateException", nI 60, codes)) (ok_jd (ok_f (i_nlt.mpr c1.1) (ok_t c1.2 (ok_f (by decide) (ok_s rfl))))) ?_
    rintro _ rfl
    exact ok_u3 (ok_f (by decide) (ok_t rfl (ok_s (ok_c1 f_in_e c1 (ok_f (by decide) (ok_t rfl (ok_fails (ok_s ⟨an_k n20, hst⟩))))))))
  · refine ok_bd (fun o => o = (Sum.inl (nI (t + 1)), nI (t + 1), upd codes t p1)) (ok_jd (ok_f (i_nlt.mpr c1.1) (ok_t c1.2 (ok_t (nI_lt (b := 60) (by omega) (by omega)) (ok_wr t rfl (by omega) (by decide) (ok_s (by rw [nI_1]))))))) ?_
    rintro _ rfl
    refine ok_u3 (ok_wrL (ok_s (ok_c1 f_in_e c1 (ok_f (by decide) (ok_f (nI_ne (b := 60) c2 (by omega) (by omega)) (ok_wr t rfl (by omega) (by decide) (ok_s ⟨an_0 (nI_1 t).symm, t + 1, by omega, rfl, nI_1 t, fun i hi => ?_⟩)))))))
    dsimp only
    by_cases e : i = t
    · subst e; rw [pk_us, pk_us]
    · rw [pk_un e, pk_un e]; exact ht2 i (by omega)
theorem t_clear {len typed x : Int32} {codes text : Nat → Int32} (ht : txR len typed codes text) : f_X4_clearBuffer len = some (len, 0) ∧ f_X5_clearBuffer typed x = some (len, 0, 0) ∧ txR 0 0 codes text := by
  obtain ⟨t, ht1, rfl, rfl, ht2⟩ := ht
  exact ⟨rfl, rfl, 0, by omega, rfl, rfl, fun i hi => by omega⟩
end Face3
