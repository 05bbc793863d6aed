/-! the digest of both -/
def fl (f : Nat → Int32) : Nat → Int64 → Int64
  | 0, h => h
  | k + 1, h => (31 : Int64) * fl f k h + (f k).toInt64
def fb (E : Nat → Nat → Bool) (n : Nat) (P L M Y : Nat → Int32) : Nat → Int64 → Int64
  | 0, h => h
  | b + 1, h => fl (fun w => nPl E n b (nI w)) 3 (fl (fun w => nBk E n P L M Y b (nI w)) 11 (fb E n P L M Y b h))
def dg1 (P L M Y : Nat → Int32) (n : Nat) (hs : Int32) : Int64 := fl (fun k => ordV (eB P L M Y) n (nI k)) n (fb (eB P L M Y) n P L M Y n (fl (fun w => nAl (eB P L M Y) n P Y hs (nI w)) 10 3203))
def dg2 (P L M Y : Nat → Int32) (n : Nat) (h : Int64) : Int64 := fl (fun l => nTl P L M Y n (nI l)) 12 ((31 : Int64) * ((31 : Int64) * h + (nI (cd n (outN (eB P L M Y) n))).toInt64) + (nI (outN (eB P L M Y) n)).toInt64)
def dg3 (P L M Y : Nat → Int32) (n : Nat) (h : Int64) : Int64 := if n = 0 then h else (31 : Int64) * ((31 : Int64) * h + (nIy P L M Y n 0 1700 0).toInt64) + (nIy P L M Y n 0 1700 1).toInt64
def dg4 (P L M Y : Nat → Int32) (n t : Nat) (codes : Nat → Int32) (h : Int64) : Int64 := fl codes t ((31 : Int64) * ((31 : Int64) * h + (shV (dtdV (eB P L M Y) n Y) n).toInt64) + (nI t).toInt64)
def dgV (P L M Y : Nat → Int32) (n t : Nat) (hs : Int32) (codes : Nat → Int32) : Int64 := dg4 P L M Y n t codes (dg3 P L M Y n (dg2 P L M Y n (dg1 P L M Y n hs)))
theorem fl_cg {f g : Nat → Int32} {h : Int64} : ∀ n : Nat, (∀ k, k < n → f k = g k) → fl f n h = fl g n h
  | 0, _ => rfl
  | n + 1, hh => by rw [fl, fl, fl_cg n (fun k hk => hh k (by omega)), hh n (by omega)]
theorem mixed_e (a b : Int64) : f_X4_mixed a b = some ((31 : Int64) * a + b) := rfl
theorem mx_s {τ : Type} {a b : Int64} {k : Int64 → Option τ} {R : τ → Prop} (h : Ok (k ((31 : Int64) * a + b)) R) : Ok ((f_X4_mixed a b).bind (u1 k)) R := ok_be (mixed_e a b) h
theorem ok_lt_head {τ : Type} {a b : Nat} {x y : Option τ} {R : τ → Prop} (h : b ≤ a) (ha : a < 2 ^ 31) (k : Ok y R) : Ok (if nI a < nI b then x else y) R := ok_f (nI_nlt h ha) k
theorem withBuffer_e {t : Nat} {h : Int64} {codes : Nat → Int32} (ht : t ≤ 60) : f_X4_withBuffer h (nI t) codes = some (fl codes t ((31 : Int64) * h + (nI t).toInt64)) := by
  have key : Ok (f_X4_withBuffer h (nI t) codes) (fun r => r = fl codes t ((31 : Int64) * h + (nI t).toInt64)) := by
    unfold f_X4_withBuffer
    refine mx_s ?_
    refine ok_wl (fun i s => s.2 = nI i ∧ s.1 = fl codes i ((31 : Int64) * h + (nI t).toInt64)) (fun r => r = fl codes t ((31 : Int64) * h + (nI t).toInt64)) t (by omega) ⟨rfl, rfl⟩ ?_ ?_ (fun r hr => ok_u1 (ok_s hr))
    · rintro i ⟨s', l⟩ hi ⟨hl, hs⟩
      dsimp only at hl hs
      subst hl hs
      exact ok_nle hi (by omega) (ok_rd i rfl (by omega) (by decide) (mx_s (ok_s ⟨nI_1 i, rfl⟩)))
    · rintro ⟨s', l⟩ ⟨hl, hs⟩
      dsimp only at hl hs
      subst hl hs
      exact ok_yle (Nat.le_refl _) (by omega) (ok_s rfl)
  obtain ⟨r, h1, h2⟩ := key
  rw [h1, h2]
theorem withBooks_e {n : Nat} {P L M Y bef beh fy ly aB aH tab : Nat → Int32} {old c any sz : Int32} {h0 : Int64} (hn : n ≤ 10) (hY : yrOk n M Y) (hL : lmOk n L) (h : rsG (eB P L M Y) n Y old c any sz bef beh fy ly aB aH tab) :
    Ok (f_X4_withBooks h0 old (nI n) P L M Y c any sz bef beh fy ly aB aH tab) (fun o => o.1 = fb (eB P L M Y) n P L M Y n h0 ∧ rsG (eB P L M Y) n Y o.2.1 o.2.2.1 o.2.2.2.1 o.2.2.2.2.1 o.2.2.2.2.2.1 o.2.2.2.2.2.2.1 o.2.2.2.2.2.2.2.1 o.2.2.2.2.2.2.2.2.1 o.2.2.2.2.2.2.2.2.2.1 o.2.2.2.2.2.2.2.2.2.2.1 o.2.2.2.2.2.2.2.2.2.2.2) := by
  unfold f_X4_withBooks
  refine ok_wl (fun i s => s.2.1 = nI i ∧ s.1 = fb (eB P L M Y) n P L M Y i h0 ∧ rsG (eB P L M Y) n Y s.2.2.1 s.2.2.2.1 s.2.2.2.2.1 s.2.2.2.2.2.1 s.2.2.2.2.2.2.1 s.2.2.2.2.2.2.2.1 s.2.2.2.2.2.2.2.2.1 s.2.2.2.2.2.2.2.2.2.1 s.2.2.2.2.2.2.2.2.2.2.1 s.2.2.2.2.2.2.2.2.2.2.2.1 s.2.2.2.2.2.2.2.2.2.2.2.2)
    (fun o => o.1 = fb (eB P L M Y) n P L M Y n h0 ∧ rsG (eB P L M Y) n Y o.2.1 o.2.2.1 o.2.2.2.1 o.2.2.2.2.1 o.2.2.2.2.2.1 o.2.2.2.2.2.2.1 o.2.2.2.2.2.2.2.1 o.2.2.2.2.2.2.2.2.1 o.2.2.2.2.2.2.2.2.2.1 o.2.2.2.2.2.2.2.2.2.2.1 o.2.2.2.2.2.2.2.2.2.2.2) n (by omega) ⟨rfl, rfl, h⟩ ?_ ?_ ?_
  · rintro i ⟨l1, l3, w3, w4, w5, w6, w7, w8, w9, w10, w11, w12, w13⟩ hi ⟨e1, e2, hg⟩
    dsimp only at e1 e2 hg
    subst e1 e2
    refine ok_nle hi (by omega) ?_
    refine ok_wl (fun j s => s.2.1 = nI j ∧ s.1 = fl (fun w => nBk (eB P L M Y) n P L M Y i (nI w)) j (fb (eB P L M Y) n P L M Y i h0) ∧ rsG (eB P L M Y) n Y s.2.2.1 s.2.2.2.1 s.2.2.2.2.1 s.2.2.2.2.2.1 s.2.2.2.2.2.2.1 s.2.2.2.2.2.2.2.1 s.2.2.2.2.2.2.2.2.1 s.2.2.2.2.2.2.2.2.2.1 s.2.2.2.2.2.2.2.2.2.2.1 s.2.2.2.2.2.2.2.2.2.2.2 w13)
      (fun o => o.1 = fl (fun w => nBk (eB P L M Y) n P L M Y i (nI w)) 11 (fb (eB P L M Y) n P L M Y i h0) ∧ rsG (eB P L M Y) n Y o.2.1 o.2.2.1 o.2.2.2.1 o.2.2.2.2.1 o.2.2.2.2.2.1 o.2.2.2.2.2.2.1 o.2.2.2.2.2.2.2.1 o.2.2.2.2.2.2.2.2.1 o.2.2.2.2.2.2.2.2.2.1 o.2.2.2.2.2.2.2.2.2.2 w13) 11 (by omega) ⟨rfl, rfl, hg⟩ ?_ ?_ ?_
    · rintro j ⟨l1, l4, v3, v4, v5, v6, v7, v8, v9, v10, v11, v12⟩ hj ⟨e1, e2, hg⟩
      dsimp only at e1 e2 hg
      subst e1 e2
      refine ok_lt_head (a := 10) (by omega) (by omega) (ok_bd _ (nBook_e hn hi hY hL (nI_pos' (by omega)) (nI_le (b := 10) (by omega) (by omega)) hg) ?_)
      rintro ⟨r, o50, o51, o52, o53, o54, o55, o56, o57, o58, o59⟩ ⟨hr, hg2⟩
      dsimp only at hr
      subst hr
      exact ok_u11 (mx_s (ok_s ⟨nI_1 j, rfl, hg2⟩))
    · rintro ⟨l1, l4, v3, v4, v5, v6, v7, v8, v9, v10, v11, v12⟩ ⟨e1, e2, hg⟩
      dsimp only at e1 e2 hg
      subst e1 e2
      refine ok_u12 ?_
      rw [if_pos (show (10 : Int32) < nI 11 by decide)]
      exact ok_s ⟨rfl, hg⟩
    · rintro ⟨l1, v3, v4, v5, v6, v7, v8, v9, v10, v11, v12⟩ ⟨e2, hg⟩
      dsimp only at e2 hg
      subst e2
      refine ok_u11 ?_
      refine ok_wl (fun j s => s.2.1 = nI j ∧ s.1 = fl (fun w => nPl (eB P L M Y) n i (nI w)) j (fl (fun w => nBk (eB P L M Y) n P L M Y i (nI w)) 11 (fb (eB P L M Y) n P L M Y i h0)) ∧ rsG (eB P L M Y) n Y s.2.2.1 s.2.2.2.1 s.2.2.2.2.1 s.2.2.2.2.2.1 s.2.2.2.2.2.2.1 s.2.2.2.2.2.2.2.1 s.2.2.2.2.2.2.2.2.1 s.2.2.2.2.2.2.2.2.2.1 s.2.2.2.2.2.2.2.2.2.2.1 s.2.2.2.2.2.2.2.2.2.2.2.1 s.2.2.2.2.2.2.2.2.2.2.2.2)
        (fun o => o.1 = fb (eB P L M Y) n P L M Y (i + 1) h0 ∧ rsG (eB P L M Y) n Y o.2.1 o.2.2.1 o.2.2.2.1 o.2.2.2.2.1 o.2.2.2.2.2.1 o.2.2.2.2.2.2.1 o.2.2.2.2.2.2.2.1 o.2.2.2.2.2.2.2.2.1 o.2.2.2.2.2.2.2.2.2.1 o.2.2.2.2.2.2.2.2.2.2.1 o.2.2.2.2.2.2.2.2.2.2.2) 3 (by omega) ⟨rfl, rfl, hg⟩ ?_ ?_ ?_
      · rintro j ⟨l1, l4, v3, v4, v5, v6, v7, v8, v9, v10, v11, v12, v13⟩ hj ⟨e1, e2, hg⟩
        dsimp only at e1 e2 hg
        subst e1 e2
        have hjw : nI j = 0 ∨ nI j = 1 ∨ nI j = 2 := by
          match j, hj with
          | 0, _ => exact Or.inl rfl
          | 1, _ => exact Or.inr (Or.inl rfl)
          | 2, _ => exact Or.inr (Or.inr rfl)
          | j + 3, hj => omega
        refine ok_lt_head (a := 2) (by omega) (by omega) (ok_bd _ (nPlace_e hn hi hY hjw hg) ?_)
        rintro ⟨r, o50, o51, o52, o53, o54, o55, o56, o57, o58, o59, o60⟩ ⟨hr, hg2⟩
        dsimp only at hr
        subst hr
        exact ok_u12 (mx_s (ok_s ⟨nI_1 j, rfl, hg2⟩))
      · rintro ⟨l1, l4, v3, v4, v5, v6, v7, v8, v9, v10, v11, v12, v13⟩ ⟨e1, e2, hg⟩
        dsimp only at e1 e2 hg
        subst e1 e2
        refine ok_u13 ?_
        rw [if_pos (show (2 : Int32) < nI 3 by decide)]
        exact ok_s ⟨rfl, hg⟩
      · rintro ⟨l1, v3, v4, v5, v6, v7, v8, v9, v10, v11, v12, v13⟩ ⟨e2, hg⟩
        exact ok_u12 (ok_s ⟨nI_1 i, e2, hg⟩)
  · rintro ⟨l1, l3, w3, w4, w5, w6, w7, w8, w9, w10, w11, w12, w13⟩ ⟨e1, e2, hg⟩
    dsimp only at e1 e2 hg
    subst e1 e2
    exact ok_yle (Nat.le_refl _) (by omega) (ok_s ⟨rfl, hg⟩)
  · rintro ⟨l1, w3, w4, w5, w6, w7, w8, w9, w10, w11, w12, w13⟩ hr
    exact ok_u12 (ok_s hr)
theorem digest_e {n t : Nat} {P L M Y codes bef beh fy ly aB aH tab p1 p2 p3 p4 a1 a2 a3 a4 a5 a6 tb : Nat → Int32} {old c any sz hs z c' any' sz' : Int32} (hn : n ≤ 10) (ht : t ≤ 60) (hY : yrOk n M Y) (hL : lmOk n L) (h : rsG (eB P L M Y) n Y old c any sz bef beh fy ly aB aH tab) :
    Ok (f_X4_digest (nI t) old (nI n) P L M Y z p1 p2 p3 p4 hs c any sz bef beh fy ly aB aH tab c' any' sz' a1 a2 a3 a4 a5 a6 tb codes)
      (fun o => o.1 = dgV P L M Y n t hs codes ∧ rsG (eB P L M Y) n Y o.2.1 o.2.2.2.2.2.2.2.1 o.2.2.2.2.2.2.2.2.1 o.2.2.2.2.2.2.2.2.2.1 o.2.2.2.2.2.2.2.2.2.2.1 o.2.2.2.2.2.2.2.2.2.2.2.1 o.2.2.2.2.2.2.2.2.2.2.2.2.1 o.2.2.2.2.2.2.2.2.2.2.2.2.2.1 o.2.2.2.2.2.2.2.2.2.2.2.2.2.2.1 o.2.2.2.2.2.2.2.2.2.2.2.2.2.2.2.1 o.2.2.2.2.2.2.2.2.2.2.2.2.2.2.2.2.1) := by
  unfold f_X4_digest
  refine ok_wl (fun i s => s.2.1 = nI i ∧ s.1 = fl (fun w => nAl (eB P L M Y) n P Y hs (nI w)) i 3203 ∧ rsG (eB P L M Y) n Y s.2.2.1 s.2.2.2.1 s.2.2.2.2.1 s.2.2.2.2.2.1 s.2.2.2.2.2.2.1 s.2.2.2.2.2.2.2.1 s.2.2.2.2.2.2.2.2.1 s.2.2.2.2.2.2.2.2.2.1 s.2.2.2.2.2.2.2.2.2.2.1 s.2.2.2.2.2.2.2.2.2.2.2.1 s.2.2.2.2.2.2.2.2.2.2.2.2)
    (fun o => o.1 = fl (fun w => nAl (eB P L M Y) n P Y hs (nI w)) 10 3203 ∧ rsG (eB P L M Y) n Y o.2.1 o.2.2.1 o.2.2.2.1 o.2.2.2.2.1 o.2.2.2.2.2.1 o.2.2.2.2.2.2.1 o.2.2.2.2.2.2.2.1 o.2.2.2.2.2.2.2.2.1 o.2.2.2.2.2.2.2.2.2.1 o.2.2.2.2.2.2.2.2.2.2.1 o.2.2.2.2.2.2.2.2.2.2.2) 10 (by omega) ⟨rfl, rfl, h⟩ ?_ ?_ ?_
  · rintro j ⟨l1, l4, v3, v4, v5, v6, v7, v8, v9, v10, v11, v12, v13⟩ hj ⟨e1, e2, hg⟩
    dsimp only at e1 e2 hg
    subst e1 e2
    refine ok_lt_head (a := 9) (by omega) (by omega) (ok_bd _ (nAll_e hn hY (nI_pos' (by omega)) hg) ?_)
    rintro ⟨r, o50, o51, o52, o53, o54, o55, o56, o57, o58, o59, o60⟩ ⟨hr, hg2⟩
    dsimp only at hr
    subst hr
    exact ok_u12 (mx_s (ok_s ⟨nI_1 j, rfl, hg2⟩))
  · rintro ⟨l1, l4, v3, v4, v5, v6, v7, v8, v9, v10, v11, v12, v13⟩ ⟨e1, e2, hg⟩
    dsimp only at e1 e2 hg
    subst e1 e2
    refine ok_u13 ?_
    rw [if_pos (show (9 : Int32) < nI 10 by decide)]
    exact ok_s ⟨rfl, hg⟩
  · rintro ⟨l1, w15, w16, w17, w18, w19, w20, w21, w22, w23, w24, w25⟩ ⟨e1, hg⟩
    dsimp only at e1 hg
    subst e1
    refine ok_u12 (ok_bd _ (withBooks_e hn hY hL hg) ?_)
    rintro ⟨r39, o40, o41, o42, o43, o44, o45, o46, o47, o48, o49, o50⟩ ⟨e1, hg⟩
    dsimp only at e1 hg
    subst e1
    refine ok_u12 (ok_bd _ (cr_e hn hY hg) ?_)
    rintro ⟨o52, o53, o54, o55, o56, o57, o58, o59, o60, o61⟩ ⟨h1, h2, h3⟩
    have e := h2.1
    dsimp only at e h1 h2 h3
    subst e h1
    have hbef : ∀ b, b < n → o56 b = nI (bfM (eB P L M Y) n b) := fun b hb => (h2.2.2 b hb).1.1
    refine ok_u10 ?_
    refine ok_wl (fun i s => s.2 = nI i ∧ s.1 = fl (fun k => ordV (eB P L M Y) n (nI k)) i (fb (eB P L M Y) n P L M Y n (fl (fun w => nAl (eB P L M Y) n P Y hs (nI w)) 10 3203))) (fun r => r = dg1 P L M Y n hs) n (by omega) ⟨rfl, rfl⟩ ?_ ?_ ?_
    · rintro i ⟨l1, l⟩ hi ⟨hl, hs'⟩
      dsimp only at hl hs'
      subst hl hs'
      exact ok_nle hi (by omega) (ok_be (firstOrder_e hn (nI_pos' (by omega)) hbef h2.2.1) (ok_u1 (mx_s (ok_s ⟨nI_1 i, rfl⟩))))
    · rintro ⟨l1, l⟩ ⟨hl, hs'⟩
      dsimp only at hl hs'
      subst hl hs'
      exact ok_yle (Nat.le_refl _) (by omega) (ok_s rfl)
    · rintro r rfl
      refine ok_u1 (ok_bd _ (leastWrong_e hn hbef h2.2.1 h3) ?_)
      rintro ⟨r67, o68, o69⟩ ⟨e1, ht68⟩
      dsimp only at e1 ht68
      subst e1
      refine ok_u3 (ok_be (bc_e hn (bs_lt _ n _ (Nat.le_refl _))) (ok_u1 (mx_s (mx_s ?_))))
      refine ok_wl (fun i s => s.2.1 = nI i ∧ s.1 = fl (fun l => nTl P L M Y n (nI l)) i ((31 : Int64) * ((31 : Int64) * dg1 P L M Y n hs + (nI (cd n (outN (eB P L M Y) n))).toInt64) + (nI (outN (eB P L M Y) n)).toInt64) ∧ tabG (eB P L M Y) n s.2.2.2.2.2.2.2.1 s.2.2.2.2.2.2.2.2.1)
        (fun o => o.1 = dg2 P L M Y n (dg1 P L M Y n hs) ∧ tabG (eB P L M Y) n o.2.2.2.2.2.2.1 o.2.2.2.2.2.2.2.1) 12 (by omega) ⟨rfl, rfl, ht68⟩ ?_ ?_ ?_
      · rintro i ⟨l1, l5, w75, w76, w77, w78, w79, w80, w81, w82, w83, w84, w85, w86, w87, w88, w89, w90, w91⟩ hi ⟨e1, e2, hT⟩
        dsimp only at e1 e2 hT
        subst e1 e2
        refine ok_nle (a := 12) hi (by omega) (ok_bd _ (owl_e hn hY) ?_)
        rintro ⟨r110, o111, o112, o113, o114, o115, o116, o117, o118, o119, o120, o121, o122, o123, o124, o125⟩ e1
        dsimp only at e1
        subst e1
        refine ok_u16 (ok_bd _ (orders_e hn hbef h2.2.1 hT) ?_)
        rintro ⟨r126, o127, o128⟩ ⟨e1, hT2⟩
        dsimp only at e1 hT2
        subst e1
        exact ok_u3 (mx_s (ok_s ⟨nI_1 i, rfl, hT2⟩))
      · rintro ⟨l1, l5, w75, w76, w77, w78, w79, w80, w81, w82, w83, w84, w85, w86, w87, w88, w89, w90, w91⟩ ⟨e1, e2, hT⟩
        dsimp only at e1 e2 hT
        subst e1 e2
        refine ok_u19 ?_
        rw [if_pos (show (12 : Int32) ≤ nI 12 by decide)]
        exact ok_s ⟨rfl, hT⟩
      · rintro ⟨l1, w93, w94, w95, w96, w97, w98, w99, w100, w101, w102, w103, w104, w105, w106, w107, w108, w109⟩ ⟨e1, hT⟩
        dsimp only at e1 hT
        subst e1
        refine ok_u18 ?_
        refine ok_jn (fun v => v.1 = dg3 P L M Y n (dg2 P L M Y n (dg1 P L M Y n hs))) ?_ ?_
        · rintro ⟨l130, w131, w132, w133, w134, w135, w136, w137, w138, w139, w140, w141, w142, w143, w144, w145⟩ e1
          dsimp only at e1
          subst e1
          have hg5 : rsG (eB P L M Y) n Y 0 w98 o54 (nI n) o56 o57 o58 o59 o60 o61 w99 := ⟨Or.inl rfl, fun _ => ⟨h2, hT⟩⟩
          refine ok_u16 (ok_bd _ (dShare_e hn hY hg5) ?_)
          rintro ⟨r147, o148, o149, o150, o151, o152, o153, o154, o155, o156, o157⟩ ⟨e1, hg6⟩
          dsimp only at e1 hg6
          subst e1
          have hd := dtd_le n (fyV (eB P L M Y) n Y) (lyV (eB P L M Y) n Y)
          refine ok_u11 (ok_be (sh_bits n (by omega) (dtdV (eB P L M Y) n Y) (by unfold dtdV; omega)) (ok_u1 (mx_s (ok_be (withBuffer_e ht) (ok_u1 (ok_s ⟨rfl, hg6⟩))))))
        · intro K hK
          by_cases q : n = 0
          · subst q
            exact ok_t (Int32.le_refl _) (hK _ rfl)
          · refine ok_f (nI_nle (by omega) (by omega)) (ok_bd _ (nif_e (b := 0) hn (by omega) hY (by decide)) ?_)
            rintro ⟨r161, o162, o163, o164, o165, o166, o167, o168, o169, o170, o171, o172, o173, o174, o175, o176⟩ e1
            dsimp only at e1
            subst e1
            refine ok_u16 (mx_s (ok_bd _ (nif_e (b := 0) hn (by omega) hY (by decide)) ?_))
            rintro ⟨r178, o179, o180, o181, o182, o183, o184, o185, o186, o187, o188, o189, o190, o191, o192, o193⟩ e1
            dsimp only at e1
            subst e1
            refine ok_u16 (mx_s (hK _ ?_))
            show _ = dg3 _ _ _ _ _ _
            unfold dg3
            rw [if_neg q]
theorem digestM_e {n t : Nat} {s P L M Y text f2 f4 f5 f6 : Nat → Int32} {hs x : Int32} (hn : n ≤ 10) (ht : t ≤ 60) (hY : yrOk n M Y) (hL : lmOk n L) (h : rw4 s n P L M Y) :
    Ok (f_X5_digest hs (nI t) x s f2 text f4 f5 f6) (fun o => o.1 = dgV P L M Y n t hs text ∧ o.2.1 = 0) := by
  unfold f_X5_digest
  refine ok_wl (fun i s => s.2.1 = nI i ∧ s.1 = fl (fun w => nAl (eB P L M Y) n P Y hs (nI w)) i 3203) (fun o => o.1 = fl (fun w => nAl (eB P L M Y) n P Y hs (nI w)) 10 3203) 10 (by omega) ⟨rfl, rfl⟩ ?_ ?_ ?_
  · rintro i ⟨l1, l3, w3, w4, w5⟩ hi ⟨e1, e2⟩
    dsimp only at e1 e2
    subst e1 e2
    refine ok_nle (a := 10) hi (by omega) (ok_bd _ (counted_e hn hY h (nI_pos' (by omega))) ?_)
    rintro ⟨r, o11, o12, o13⟩ e1
    dsimp only at e1
    subst e1
    exact ok_u4 (ok_s ⟨nI_1 i, rfl⟩)
  · rintro ⟨l1, l3, w3, w4, w5⟩ ⟨e1, e2⟩
    dsimp only at e1 e2
    subst e1 e2
    refine ok_u5 ?_
    rw [if_pos (show (10 : Int32) ≤ nI 10 by decide)]
    exact ok_s rfl
  · rintro ⟨l1, w7, w8, w9⟩ e1
    dsimp only at e1
    subst e1
    refine ok_u4 ?_
    refine ok_wl (fun i s => s.2.1 = nI i ∧ s.1 = fb (eB P L M Y) n P L M Y i (fl (fun w => nAl (eB P L M Y) n P Y hs (nI w)) 10 3203)) (fun o => o.1 = fb (eB P L M Y) n P L M Y n (fl (fun w => nAl (eB P L M Y) n P Y hs (nI w)) 10 3203)) n (by omega) ⟨rfl, rfl⟩ ?_ ?_ ?_
    · rintro i ⟨l1, l3, w3, w4, w5⟩ hi ⟨e1, e2⟩
      dsimp only at e1 e2
      subst e1 e2
      refine ok_u5 (rd40 h (ok_nle hi (by omega) ?_))
      refine ok_wl (fun j s => s.2.1 = nI j ∧ s.1 = fl (fun w => nBk (eB P L M Y) n P L M Y i (nI w)) j (fb (eB P L M Y) n P L M Y i (fl (fun w => nAl (eB P L M Y) n P Y hs (nI w)) 10 3203))) (fun o => o.1 = fl (fun w => nBk (eB P L M Y) n P L M Y i (nI w)) 11 (fb (eB P L M Y) n P L M Y i (fl (fun w => nAl (eB P L M Y) n P Y hs (nI w)) 10 3203))) 11 (by omega) ⟨rfl, rfl⟩ ?_ ?_ ?_
      · rintro j ⟨l1, l4, v3, v4⟩ hj ⟨e1, e2⟩
        dsimp only at e1 e2
        subst e1 e2
        refine ok_nle (a := 11) hj (by omega) (ok_bd _ (ofBook_e hn hi hY hL (nI_pos' (by omega)) (nI_le (b := 10) (by omega) (by omega)) h) ?_)
        rintro ⟨r, o32, o33⟩ e1
        dsimp only at e1
        subst e1
        exact ok_u3 (ok_s ⟨nI_1 j, rfl⟩)
      · rintro ⟨l1, l4, v3, v4⟩ ⟨e1, e2⟩
        dsimp only at e1 e2
        subst e1 e2
        refine ok_u4 ?_
        rw [if_pos (show (11 : Int32) ≤ nI 11 by decide)]
        exact ok_s rfl
      · rintro ⟨l1, v3, v4⟩ e1
        dsimp only at e1
        subst e1
        refine ok_u3 ?_
        refine ok_wl (fun j s => s.2.1 = nI j ∧ s.1 = fl (fun w => nPl (eB P L M Y) n i (nI w)) j (fl (fun w => nBk (eB P L M Y) n P L M Y i (nI w)) 11 (fb (eB P L M Y) n P L M Y i (fl (fun w => nAl (eB P L M Y) n P Y hs (nI w)) 10 3203)))) (fun o => o.1 = fb (eB P L M Y) n P L M Y (i + 1) (fl (fun w => nAl (eB P L M Y) n P Y hs (nI w)) 10 3203)) 3 (by omega) ⟨rfl, rfl⟩ ?_ ?_ ?_
        · rintro j ⟨l1, l4, v3, v4⟩ hj ⟨e1, e2⟩
          dsimp only at e1 e2
          subst e1 e2
          have hjw : nI j = 0 ∨ nI j = 1 ∨ nI j = 2 := by
            match j, hj with
            | 0, _ => exact Or.inl rfl
            | 1, _ => exact Or.inr (Or.inl rfl)
            | 2, _ => exact Or.inr (Or.inr rfl)
            | j + 3, hj => omega
          refine ok_nle (a := 3) hj (by omega) (ok_bd _ (stands_e hn h hi hjw) ?_)
          rintro ⟨r, o32, o33⟩ e1
          dsimp only at e1
          subst e1
          exact ok_u3 (ok_s ⟨nI_1 j, rfl⟩)
        · rintro ⟨l1, l4, v3, v4⟩ ⟨e1, e2⟩
          dsimp only at e1 e2
          subst e1 e2
          refine ok_u4 ?_
          rw [if_pos (show (3 : Int32) ≤ nI 3 by decide)]
          exact ok_s rfl
        · rintro ⟨l1, v3, v4⟩ e1
          exact ok_u3 (ok_s ⟨nI_1 i, e1⟩)
    · rintro ⟨l1, l3, w3, w4, w5⟩ ⟨e1, e2⟩
      dsimp only at e1 e2
      subst e1 e2
      exact ok_u5 (rd40 h (ok_yle (Nat.le_refl _) (by omega) (ok_s rfl)))
    · rintro ⟨l1, w20, w21, w22⟩ e1
      dsimp only at e1
      subst e1
      refine ok_u4 ?_
      refine ok_wl (fun i s => s.2.1 = nI i ∧ s.1 = fl (fun k => ordV (eB P L M Y) n (nI k)) i (fb (eB P L M Y) n P L M Y n (fl (fun w => nAl (eB P L M Y) n P Y hs (nI w)) 10 3203))) (fun r => r.1 = dg1 P L M Y n hs) n (by omega) ⟨rfl, rfl⟩ ?_ ?_ ?_
      · rintro i ⟨l1, l3, w3, w4⟩ hi ⟨e1, e2⟩
        dsimp only at e1 e2
        subst e1 e2
        refine ok_u4 (rd40 h (ok_nle hi (by omega) (ok_bd _ (ordered_e hn (nI_pos' (by omega)) h) ?_)))
        rintro ⟨r, o53, o54⟩ e1
        dsimp only at e1
        subst e1
        exact ok_u3 (ok_s ⟨nI_1 i, rfl⟩)
      · rintro ⟨l1, l3, w3, w4⟩ ⟨e1, e2⟩
        dsimp only at e1 e2
        subst e1 e2
        exact ok_u4 (rd40 h (ok_yle (Nat.le_refl _) (by omega) (ok_s rfl)))
      · rintro ⟨l1, w49, w50⟩ e1
        dsimp only at e1
        subst e1
        refine ok_u3 (ok_bd _ (leftOut_e hn h) ?_)
        rintro ⟨r55, o56, o57⟩ e1
        dsimp only at e1
        subst e1
        refine ok_u3 (ok_be (on_e hn (bs_lt _ n _ (Nat.le_refl _))) (ok_u1 ?_))
        refine ok_wl (fun i s => s.2.1 = nI i ∧ s.1 = fl (fun l => nTl P L M Y n (nI l)) i ((31 : Int64) * ((31 : Int64) * dg1 P L M Y n hs + (nI (cd n (outN (eB P L M Y) n))).toInt64) + (nI (outN (eB P L M Y) n)).toInt64))
          (fun o => o.1 = dg2 P L M Y n (dg1 P L M Y n hs)) 12 (by omega) ⟨rfl, rfl⟩ ?_ ?_ ?_
        · rintro i ⟨l1, l4, w61, w62, w63⟩ hi ⟨e1, e2⟩
          dsimp only at e1 e2
          subst e1 e2
          refine ok_nle (a := 12) hi (by omega) (ok_bd _ (more_e hn h) ?_)
          rintro ⟨r, o69, o70, o71⟩ e1
          dsimp only at e1
          subst e1
          exact ok_u4 (ok_s ⟨nI_1 i, rfl⟩)
        · rintro ⟨l1, l4, w61, w62, w63⟩ ⟨e1, e2⟩
          dsimp only at e1 e2
          subst e1 e2
          refine ok_u5 ?_
          rw [if_pos (show (12 : Int32) ≤ nI 12 by decide)]
          exact ok_s rfl
        · rintro ⟨l1, w65, w66, w67⟩ e1
          dsimp only at e1
          subst e1
          refine ok_u4 ?_
          refine ok_wl (fun i s => s.2.1 = nI i ∧ s.1 = (if i = 0 then dg2 P L M Y n (dg1 P L M Y n hs) else if i = 1 then (31 : Int64) * dg2 P L M Y n (dg1 P L M Y n hs) + (nIy P L M Y n 0 1700 0).toInt64 else dg3 P L M Y n (dg2 P L M Y n (dg1 P L M Y n hs))) ∧ (0 < i → n ≠ 0))
            (fun o => o.1 = dg3 P L M Y n (dg2 P L M Y n (dg1 P L M Y n hs))) 2 (by omega) ⟨rfl, rfl, fun z => by omega⟩ ?_ ?_ ?_
          · rintro i ⟨l1, l4, w74, w75, w76, w77⟩ hi ⟨e1, e2, hin⟩
            dsimp only at e1 e2
            subst e1 e2
            refine ok_u6 (ok_f (nI_ge (b := 2) hi (by omega)) (rd40 h ?_))
            by_cases q : n = 0
            · subst q
              have hi0 : i = 0 := by
                rcases Nat.eq_zero_or_pos i with z | z
                · exact z
                · exact absurd rfl (hin z)
              subst hi0
              have e0 : ∀ x, dg3 P L M Y 0 x = x := fun x => by
                unfold dg3
                rw [if_pos rfl]
              refine ok_t (Int32.le_refl _) (ok_s ?_)
              show dg2 P L M Y 0 (dg1 P L M Y 0 hs) = _
              rw [e0]
            · refine ok_f (nI_nle (by omega) (by omega)) (ok_bd _ (byYear_e (b := 0) hn (by omega) hY (by decide) h) ?_)
              rintro ⟨r, o85, o86, o87, o88⟩ e1
              dsimp only at e1
              subst e1
              refine ok_u5 (ok_s ⟨nI_1 i, ?_, fun _ => q⟩)
              match i, hi with
              | 0, _ => rfl
              | 1, _ =>
                show _ = dg3 _ _ _ _ _ _
                unfold dg3
                rw [if_neg q]
                rfl
              | i + 2, hi => omega
          · rintro ⟨l1, l4, w74, w75, w76, w77⟩ ⟨e1, e2, -⟩
            dsimp only at e1 e2
            subst e1 e2
            refine ok_u6 ?_
            rw [if_pos (show (2 : Int32) ≤ nI 2 by decide)]
            exact ok_s rfl
          · rintro ⟨l1, w79, w80, w81, w82⟩ e1
            dsimp only at e1
            subst e1
            refine ok_u5 (ok_bd _ (share_e hn hY h) ?_)
            rintro ⟨r89, o90, o91⟩ e1
            dsimp only at e1
            subst e1
            have hd := dtd_le n (fyV (eB P L M Y) n Y) (lyV (eB P L M Y) n Y)
            refine ok_u3 (ok_be (sh_dbl n (by omega) (dtdV (eB P L M Y) n Y) (by unfold dtdV; omega)) (ok_u1 ?_))
            refine ok_wl (fun i s => s.2 = nI i ∧ s.1 = fl text i ((31 : Int64) * ((31 : Int64) * dg3 P L M Y n (dg2 P L M Y n (dg1 P L M Y n hs)) + (shV (dtdV (eB P L M Y) n Y) n).toInt64) + (nI t).toInt64)) (fun r => r = dgV P L M Y n t hs text) t (by omega) ⟨rfl, rfl⟩ ?_ ?_ (fun r hr => ok_u1 (ok_s ⟨hr, rfl⟩))
            · rintro i ⟨s', l⟩ hi ⟨hl, hs'⟩
              dsimp only at hl hs'
              subst hl hs'
              exact ok_nle hi (by omega) (ok_rd i rfl (by omega) (by decide) (ok_s ⟨nI_1 i, rfl⟩))
            · rintro ⟨s', l⟩ ⟨hl, hs'⟩
              dsimp only at hl hs'
              subst hl hs'
              exact ok_yle (Nat.le_refl _) (by omega) (ok_s rfl)
