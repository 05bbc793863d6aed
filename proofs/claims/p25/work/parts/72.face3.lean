/-! date, undo, text's keeping, looks, on both sides -/
theorem ok_u20 {A1 A2 A3 A4 A5 A6 A7 A8 A9 A10 A11 A12 A13 A14 A15 A16 A17 A18 A19 A20 τ : Type} {k : A1 → A2 → A3 → A4 → A5 → A6 → A7 → A8 → A9 → A10 → A11 → A12 → A13 → A14 → A15 → A16 → A17 → A18 → A19 → A20 → Option τ} {a1 : A1} {a2 : A2} {a3 : A3} {a4 : A4} {a5 : A5} {a6 : A6} {a7 : A7} {a8 : A8} {a9 : A9} {a10 : A10} {a11 : A11} {a12 : A12} {a13 : A13} {a14 : A14} {a15 : A15} {a16 : A16} {a17 : A17} {a18 : A18} {a19 : A19} {a20 : A20} {R : τ → Prop} (h : Ok (k a1 a2 a3 a4 a5 a6 a7 a8 a9 a10 a11 a12 a13 a14 a15 a16 a17 a18 a19 a20) R) : Ok (u20 k (a1, a2, a3, a4, a5, a6, a7, a8, a9, a10, a11, a12, a13, a14, a15, a16, a17, a18, a19, a20)) R := h
theorem ok_u21 {A1 A2 A3 A4 A5 A6 A7 A8 A9 A10 A11 A12 A13 A14 A15 A16 A17 A18 A19 A20 A21 τ : Type} {k : A1 → A2 → A3 → A4 → A5 → A6 → A7 → A8 → A9 → A10 → A11 → A12 → A13 → A14 → A15 → A16 → A17 → A18 → A19 → A20 → A21 → Option τ} {a1 : A1} {a2 : A2} {a3 : A3} {a4 : A4} {a5 : A5} {a6 : A6} {a7 : A7} {a8 : A8} {a9 : A9} {a10 : A10} {a11 : A11} {a12 : A12} {a13 : A13} {a14 : A14} {a15 : A15} {a16 : A16} {a17 : A17} {a18 : A18} {a19 : A19} {a20 : A20} {a21 : A21} {R : τ → Prop} (h : Ok (k a1 a2 a3 a4 a5 a6 a7 a8 a9 a10 a11 a12 a13 a14 a15 a16 a17 a18 a19 a20 a21) R) : Ok (u21 k (a1, a2, a3, a4, a5, a6, a7, a8, a9, a10, a11, a12, a13, a14, a15, a16, a17, a18, a19, a20, a21)) R := h
theorem ok_u22 {A1 A2 A3 A4 A5 A6 A7 A8 A9 A10 A11 A12 A13 A14 A15 A16 A17 A18 A19 A20 A21 A22 τ : Type} {k : A1 → A2 → A3 → A4 → A5 → A6 → A7 → A8 → A9 → A10 → A11 → A12 → A13 → A14 → A15 → A16 → A17 → A18 → A19 → A20 → A21 → A22 → Option τ} {a1 : A1} {a2 : A2} {a3 : A3} {a4 : A4} {a5 : A5} {a6 : A6} {a7 : A7} {a8 : A8} {a9 : A9} {a10 : A10} {a11 : A11} {a12 : A12} {a13 : A13} {a14 : A14} {a15 : A15} {a16 : A16} {a17 : A17} {a18 : A18} {a19 : A19} {a20 : A20} {a21 : A21} {a22 : A22} {R : τ → Prop} (h : Ok (k a1 a2 a3 a4 a5 a6 a7 a8 a9 a10 a11 a12 a13 a14 a15 a16 a17 a18 a19 a20 a21 a22) R) : Ok (u22 k (a1, a2, a3, a4, a5, a6, a7, a8, a9, a10, a11, a12, a13, a14, a15, a16, a17, a18, a19, a20, a21, a22)) R := h
theorem ok_u23 {A1 A2 A3 A4 A5 A6 A7 A8 A9 A10 A11 A12 A13 A14 A15 A16 A17 A18 A19 A20 A21 A22 A23 τ : Type} {k : A1 → A2 → A3 → A4 → A5 → A6 → A7 → A8 → A9 → A10 → A11 → A12 → A13 → A14 → A15 → A16 → A17 → A18 → A19 → A20 → A21 → A22 → A23 → Option τ} {a1 : A1} {a2 : A2} {a3 : A3} {a4 : A4} {a5 : A5} {a6 : A6} {a7 : A7} {a8 : A8} {a9 : A9} {a10 : A10} {a11 : A11} {a12 : A12} {a13 : A13} {a14 : A14} {a15 : A15} {a16 : A16} {a17 : A17} {a18 : A18} {a19 : A19} {a20 : A20} {a21 : A21} {a22 : A22} {a23 : A23} {R : τ → Prop} (h : Ok (k a1 a2 a3 a4 a5 a6 a7 a8 a9 a10 a11 a12 a13 a14 a15 a16 a17 a18 a19 a20 a21 a22 a23) R) : Ok (u23 k (a1, a2, a3, a4, a5, a6, a7, a8, a9, a10, a11, a12, a13, a14, a15, a16, a17, a18, a19, a20, a21, a22, a23)) R := h
theorem ok_u24 {A1 A2 A3 A4 A5 A6 A7 A8 A9 A10 A11 A12 A13 A14 A15 A16 A17 A18 A19 A20 A21 A22 A23 A24 τ : Type} {k : A1 → A2 → A3 → A4 → A5 → A6 → A7 → A8 → A9 → A10 → A11 → A12 → A13 → A14 → A15 → A16 → A17 → A18 → A19 → A20 → A21 → A22 → A23 → A24 → Option τ} {a1 : A1} {a2 : A2} {a3 : A3} {a4 : A4} {a5 : A5} {a6 : A6} {a7 : A7} {a8 : A8} {a9 : A9} {a10 : A10} {a11 : A11} {a12 : A12} {a13 : A13} {a14 : A14} {a15 : A15} {a16 : A16} {a17 : A17} {a18 : A18} {a19 : A19} {a20 : A20} {a21 : A21} {a22 : A22} {a23 : A23} {a24 : A24} {R : τ → Prop} (h : Ok (k a1 a2 a3 a4 a5 a6 a7 a8 a9 a10 a11 a12 a13 a14 a15 a16 a17 a18 a19 a20 a21 a22 a23 a24) R) : Ok (u24 k (a1, a2, a3, a4, a5, a6, a7, a8, a9, a10, a11, a12, a13, a14, a15, a16, a17, a18, a19, a20, a21, a22, a23, a24)) R := h
theorem ok_u25 {A1 A2 A3 A4 A5 A6 A7 A8 A9 A10 A11 A12 A13 A14 A15 A16 A17 A18 A19 A20 A21 A22 A23 A24 A25 τ : Type} {k : A1 → A2 → A3 → A4 → A5 → A6 → A7 → A8 → A9 → A10 → A11 → A12 → A13 → A14 → A15 → A16 → A17 → A18 → A19 → A20 → A21 → A22 → A23 → A24 → A25 → Option τ} {a1 : A1} {a2 : A2} {a3 : A3} {a4 : A4} {a5 : A5} {a6 : A6} {a7 : A7} {a8 : A8} {a9 : A9} {a10 : A10} {a11 : A11} {a12 : A12} {a13 : A13} {a14 : A14} {a15 : A15} {a16 : A16} {a17 : A17} {a18 : A18} {a19 : A19} {a20 : A20} {a21 : A21} {a22 : A22} {a23 : A23} {a24 : A24} {a25 : A25} {R : τ → Prop} (h : Ok (k a1 a2 a3 a4 a5 a6 a7 a8 a9 a10 a11 a12 a13 a14 a15 a16 a17 a18 a19 a20 a21 a22 a23 a24 a25) R) : Ok (u25 k (a1, a2, a3, a4, a5, a6, a7, a8, a9, a10, a11, a12, a13, a14, a15, a16, a17, a18, a19, a20, a21, a22, a23, a24, a25)) R := h
theorem ok_u26 {A1 A2 A3 A4 A5 A6 A7 A8 A9 A10 A11 A12 A13 A14 A15 A16 A17 A18 A19 A20 A21 A22 A23 A24 A25 A26 τ : Type} {k : A1 → A2 → A3 → A4 → A5 → A6 → A7 → A8 → A9 → A10 → A11 → A12 → A13 → A14 → A15 → A16 → A17 → A18 → A19 → A20 → A21 → A22 → A23 → A24 → A25 → A26 → Option τ} {a1 : A1} {a2 : A2} {a3 : A3} {a4 : A4} {a5 : A5} {a6 : A6} {a7 : A7} {a8 : A8} {a9 : A9} {a10 : A10} {a11 : A11} {a12 : A12} {a13 : A13} {a14 : A14} {a15 : A15} {a16 : A16} {a17 : A17} {a18 : A18} {a19 : A19} {a20 : A20} {a21 : A21} {a22 : A22} {a23 : A23} {a24 : A24} {a25 : A25} {a26 : A26} {R : τ → Prop} (h : Ok (k a1 a2 a3 a4 a5 a6 a7 a8 a9 a10 a11 a12 a13 a14 a15 a16 a17 a18 a19 a20 a21 a22 a23 a24 a25 a26) R) : Ok (u26 k (a1, a2, a3, a4, a5, a6, a7, a8, a9, a10, a11, a12, a13, a14, a15, a16, a17, a18, a19, a20, a21, a22, a23, a24, a25, a26)) R := h
theorem ok_u27 {A1 A2 A3 A4 A5 A6 A7 A8 A9 A10 A11 A12 A13 A14 A15 A16 A17 A18 A19 A20 A21 A22 A23 A24 A25 A26 A27 τ : Type} {k : A1 → A2 → A3 → A4 → A5 → A6 → A7 → A8 → A9 → A10 → A11 → A12 → A13 → A14 → A15 → A16 → A17 → A18 → A19 → A20 → A21 → A22 → A23 → A24 → A25 → A26 → A27 → Option τ} {a1 : A1} {a2 : A2} {a3 : A3} {a4 : A4} {a5 : A5} {a6 : A6} {a7 : A7} {a8 : A8} {a9 : A9} {a10 : A10} {a11 : A11} {a12 : A12} {a13 : A13} {a14 : A14} {a15 : A15} {a16 : A16} {a17 : A17} {a18 : A18} {a19 : A19} {a20 : A20} {a21 : A21} {a22 : A22} {a23 : A23} {a24 : A24} {a25 : A25} {a26 : A26} {a27 : A27} {R : τ → Prop} (h : Ok (k a1 a2 a3 a4 a5 a6 a7 a8 a9 a10 a11 a12 a13 a14 a15 a16 a17 a18 a19 a20 a21 a22 a23 a24 a25 a26 a27) R) : Ok (u27 k (a1, a2, a3, a4, a5, a6, a7, a8, a9, a10, a11, a12, a13, a14, a15, a16, a17, a18, a19, a20, a21, a22, a23, a24, a25, a26, a27)) R := h
def dtY (E : Nat → Nat → Bool) (n : Nat) (Y : Nat → Int32) (b : Nat) : Int32 := if Y b = -1 ∧ fyV E n Y b = lyV E n Y b then fyV E n Y b else Y b
def dtN (E : Nat → Nat → Bool) (n : Nat) (Y : Nat → Int32) (i : Nat) : Nat := sm (fun b => if Y b = -1 ∧ fyV E n Y b = lyV E n Y b then 1 else 0) i
theorem fyR_rg {n : Nat} {M Y : Nat → Int32} (h : yrOk n M Y) (u : Nat → Bool) : ∀ i, i ≤ n → 1450 ≤ fyR Y u i ∧ fyR Y u i ≤ 1999
  | 0, _ => by
    show (1450 : Int32) ≤ 1450 ∧ (1450 : Int32) ≤ 1999
    decide
  | i + 1, hi => by
    rw [fyR]
    have ih := fyR_rg h u i (by omega)
    by_cases q : u i = true ∧ Y i ≠ -1
    · rw [if_pos q]
      split
      · rcases (h i (by omega)).2 with z | z
        · exact absurd z q.2
        · exact z
      · exact ih
    · rw [if_neg q]; exact ih
theorem yr_dt {n : Nat} {M Y : Nat → Int32} {E : Nat → Nat → Bool} (h : yrOk n M Y) : yrOk n M (dtY E n Y) := fun b hb => by
  refine ⟨(h b hb).1, ?_⟩
  unfold dtY
  split
  · exact Or.inr (fyR_rg h _ n (Nat.le_refl n))
  · exact (h b hb).2
def dtP (E : Nat → Nat → Bool) (n : Nat) (Y : Nat → Int32) (i b : Nat) : Int32 := if b < i then dtY E n Y b else Y b
theorem dateL_e {n : Nat} {E : Nat → Nat → Bool} {fy ly Y : Nat → Int32} (hn : n ≤ 10) (h : ∀ b, b < n → fy b = fyV E n Y b ∧ ly b = lyV E n Y b) {τ : Type} {R : τ → Prop} {k : Int32 × (Nat → Int32) → Option τ}
    (hk : ∀ Y', (∀ b, b < n → Y' b = dtY E n Y b) → Ok (k (nI (dtN E n Y n), Y')) R) :
    Ok ((wl (u3 fun (l2_21 : Int32) (l3_22 : Int32) (w23 : Nat → Int32) => (if nI n ≤ l3_22 then some (Sum.inr (l2_21, w23)) else (rdA w23 10 l3_22).bind (fun v26 => (jn (u2 fun (l2_27 : Int32) (w28 : Nat → Int32) => some (Sum.inl (l2_27, (l3_22 + 1), w28))) (fun K29 => (if v26 = (-1) then (f_X1_isDated l3_22 fy ly).bind (u1 fun (r30 : Int32) => (if r30 = 0 then K29 (l2_21, w23) else (rdA fy 10 l3_22).bind (fun v31 => (wrA w23 10 l3_22 v31).bind (fun g32 => K29 ((l2_21 + 1), g32))))) else K29 (l2_21, w23))))))) 9999 (0, 0, Y)).bind k) R := by
  refine ok_wl (fun i s => s.2.1 = nI i ∧ s.1 = nI (dtN E n Y i) ∧ ∀ b, b < n → s.2.2 b = dtP E n Y i b) (fun r => r.1 = nI (dtN E n Y n) ∧ ∀ b, b < n → r.2 b = dtY E n Y b) n (by omega) ⟨rfl, rfl, fun b hb => ?_⟩ ?_ ?_ ?_
  · dsimp only
    rw [dtP, if_neg (Nat.not_lt_zero b)]
  · rintro i ⟨l2, l3, w⟩ hi ⟨e1, e2, hw⟩
    dsimp only at e1 e2 hw
    subst e1 e2
    have hwi := hw i hi
    rw [dtP, if_neg (Nat.lt_irrefl i)] at hwi
    refine ok_u3 (ok_nle hi (by omega) (ok_rd i rfl (by omega) (by decide) ?_))
    rw [hwi]
    refine ok_jn (fun v => v.1 = nI (dtN E n Y (i + 1)) ∧ ∀ b, b < n → v.2 b = dtP E n Y (i + 1) b) ?_ ?_
    · rintro ⟨l, w28⟩ ⟨a1, a2⟩
      exact ok_u2 (ok_s ⟨nI_1 i, a1, a2⟩)
    · intro K hK
      have hno : ¬ (Y i = -1 ∧ fyV E n Y i = lyV E n Y i) → Ok (K (nI (dtN E n Y i), w)) _ := fun q => hK _ ⟨by
        show nI (dtN E n Y i) = nI (dtN E n Y i + if _ then 1 else 0)
        rw [if_neg q]; rfl, fun b hb => by
        dsimp only
        rw [hw b hb, dtP, dtP]
        by_cases e : b = i
        · subst e
          rw [if_neg (Nat.lt_irrefl b), if_pos (by omega), dtY, if_neg q]
        · by_cases z : b < i
          · rw [if_pos z, if_pos (by omega)]
          · rw [if_neg z, if_neg (by omega)]⟩
      by_cases q1 : Y i = -1
      · refine ok_t q1 (ok_be (isDated_e (by omega)) (ok_u1 ?_))
        rw [(h i hi).1, (h i hi).2]
        by_cases q2 : fyV E n Y i = lyV E n Y i
        · rw [if_pos q2]
          refine ok_f (by decide) (ok_rd i rfl (by omega) (by decide) (ok_wr i rfl (by omega) (by decide) (hK _ ⟨?_, fun b hb => ?_⟩)))
          · show nI (dtN E n Y i) + 1 = nI (dtN E n Y i + if _ then 1 else 0)
            rw [if_pos ⟨q1, q2⟩, nI_1]
          · dsimp only
            by_cases e : b = i
            · subst e
              rw [pk_us, dtP, if_pos (by omega), dtY, if_pos ⟨q1, q2⟩, (h b hi).1]
            · rw [pk_un e, hw b hb, dtP, dtP]
              by_cases z : b < i
              · rw [if_pos z, if_pos (by omega)]
              · rw [if_neg z, if_neg (by omega)]
        · rw [if_neg q2]
          exact ok_t rfl (hno (fun z => q2 z.2))
      · exact ok_f q1 (hno (fun z => q1 z.1))
  · rintro ⟨l2, l3, w⟩ ⟨e1, e2, hw⟩
    dsimp only at e1 e2 hw
    subst e1 e2
    refine ok_yle (Nat.le_refl _) (by omega) (ok_s ⟨rfl, fun b hb => ?_⟩)
    have := hw b hb
    rw [dtP, if_pos hb] at this
    exact this
  · rintro ⟨r, w⟩ ⟨rfl, hw⟩
    exact hk w hw
section Face3
variable {sN old hs kept c any rs th : Int32} {P L M Y hN now past bef beh fy ly aB aH tab : Nat → Int32} {hP hL hM hY : Nat → Nat → Int32} {out : Nat → Int64} {f2 f3 f4 f5 : Nat → Int32}
end Face3
