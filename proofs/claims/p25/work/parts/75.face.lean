/-! the class's looks: rules with what follows -/
def shC (n : Nat) (P L M Y : Nat → Int32) : Prop := n ≤ 10 ∧ yrOk n M Y ∧ lmOk n L ∧ prOk n P
theorem bk_1 {n b : Nat} (hn : n ≤ 10) (hb : b < n) : f_X4_isBook (nI b) (nI n) = some 1 := by
  rw [isBook_e, if_pos ⟨Int32.not_lt.mp (nI_nneg (by omega)), (nI_ltI (by omega) (by omega)).mpr hb⟩]
theorem k_count {n : Nat} {P L M Y bef beh fy ly aB aH tab : Nat → Int32} {old c any sz hs w v : Int32} {τ : Type} {R : τ → Prop} {k : Int32 → Int32 → Int32 → Int32 → Int32 → (Nat → Int32) → (Nat → Int32) → (Nat → Int32) → (Nat → Int32) → (Nat → Int32) → (Nat → Int32) → (Nat → Int32) → Option τ} (C : shC n P L M Y) (hw : 0 ≤ w ∧ w ≤ 9) (hv : nAl (eB P L M Y) n P Y hs w = v) (h : rsG (eB P L M Y) n Y old c any sz bef beh fy ly aB aH tab) (hk : ∀ o1 o2 o3 o4 o5 o6 o7 o8 o9 o10 o11, rsG (eB P L M Y) n Y o1 o2 o3 o4 o5 o6 o7 o8 o9 o10 o11 → Ok (k v o1 o2 o3 o4 o5 o6 o7 o8 o9 o10 o11) R) : Ok ((f_X4_count w old (nI n) P L M Y hs c any sz bef beh fy ly aB aH tab).bind (u12 k)) R := by
  refine ok_bd (fun o => o.1 = v ∧ rsG (eB P L M Y) n Y o.2.1 o.2.2.1 o.2.2.2.1 o.2.2.2.2.1 o.2.2.2.2.2.1 o.2.2.2.2.2.2.1 o.2.2.2.2.2.2.2.1 o.2.2.2.2.2.2.2.2.1 o.2.2.2.2.2.2.2.2.2.1 o.2.2.2.2.2.2.2.2.2.2.1 o.2.2.2.2.2.2.2.2.2.2.2) ?_ ?_
  · unfold f_X4_count
    refine ok_jd ?_
    refine ok_f (Int32.not_lt.mpr hw.1) ?_
    refine ok_t hw.2 ?_
    refine ok_bd _ (nAll_e C.1 C.2.1 hw.1 h) ?_
    rintro ⟨r, o1, o2, o3, o4, o5, o6, o7, o8, o9, o10, o11⟩ ⟨e, h2⟩
    exact ok_s ⟨e.trans hv, h2⟩
  · rintro ⟨r, o1, o2, o3, o4, o5, o6, o7, o8, o9, o10, o11⟩ ⟨e, h2⟩
    dsimp only at e h2
    subst e
    exact hk o1 o2 o3 o4 o5 o6 o7 o8 o9 o10 o11 h2
theorem k_bookOf {n : Nat} {P L M Y bef beh fy ly aB aH tab : Nat → Int32} {old c any sz w v : Int32} {τ : Type} {R : τ → Prop} {b : Nat} {k : Int32 → Int32 → Int32 → Int32 → Int32 → (Nat → Int32) → (Nat → Int32) → (Nat → Int32) → (Nat → Int32) → (Nat → Int32) → (Nat → Int32) → Option τ} (C : shC n P L M Y) (hb : b < n) (hw : 0 ≤ w ∧ w ≤ 10) (hv : nBk (eB P L M Y) n P L M Y b w = v) (h : rsG (eB P L M Y) n Y old c any sz bef beh fy ly aB aH tab) (hk : ∀ o1 o2 o3 o4 o5 o6 o7 o8 o9 o10, rsG (eB P L M Y) n Y o1 o2 o3 o4 o5 o6 o7 o8 o9 o10 tab → Ok (k v o1 o2 o3 o4 o5 o6 o7 o8 o9 o10) R) : Ok ((f_X4_bookOf (nI b) w old (nI n) P L M Y c any sz bef beh fy ly aB aH).bind (u11 k)) R := by
  refine ok_bd (fun o => o.1 = v ∧ rsG (eB P L M Y) n Y o.2.1 o.2.2.1 o.2.2.2.1 o.2.2.2.2.1 o.2.2.2.2.2.1 o.2.2.2.2.2.2.1 o.2.2.2.2.2.2.2.1 o.2.2.2.2.2.2.2.2.1 o.2.2.2.2.2.2.2.2.2.1 o.2.2.2.2.2.2.2.2.2.2 tab) ?_ ?_
  · unfold f_X4_bookOf
    refine ok_be (bk_1 C.1 hb) ?_
    refine ok_u1 ?_
    refine ok_f (by decide) ?_
    refine ok_jd ?_
    refine ok_f (Int32.not_lt.mpr hw.1) ?_
    refine ok_t hw.2 ?_
    refine ok_bd _ (nBook_e C.1 hb C.2.1 C.2.2.1 hw.1 hw.2 h) ?_
    rintro ⟨r, o1, o2, o3, o4, o5, o6, o7, o8, o9, o10⟩ ⟨e, h2⟩
    exact ok_s ⟨e.trans hv, h2⟩
  · rintro ⟨r, o1, o2, o3, o4, o5, o6, o7, o8, o9, o10⟩ ⟨e, h2⟩
    dsimp only at e h2
    subst e
    exact hk o1 o2 o3 o4 o5 o6 o7 o8 o9 o10 h2
theorem k_ahead {n a b : Nat} {P L M Y : Nat → Int32} {τ : Type} {R : τ → Prop} {k : Int32 → Option τ} (C : shC n P L M Y) (ha : a < n) (hb : b < n) (hab : a ≠ b) (hk : Ok (k (spBy P L M Y a b)) R) : Ok ((f_X4_ahead (nI a) (nI b) (nI n) P L M Y).bind (u1 k)) R := by
  have h10 := C.1
  refine ok_be (a := spBy P L M Y a b) ?_ hk
  unfold f_X4_ahead
  rw [bk_1 h10 ha, bk_1 h10 hb, re_e h10 C.2.1 ha hb]
  simp only [jn, u0, u1, Option.bind_some]
  rw [if_neg (by decide), if_neg (by decide), if_neg (nI_ne hab (by omega) (by omega))]
theorem k_order {n : Nat} {P L M Y bef beh fy ly aB aH tab : Nat → Int32} {old c any sz p v : Int32} {τ : Type} {R : τ → Prop} {k : Int32 → Int32 → Int32 → Int32 → Int32 → (Nat → Int32) → (Nat → Int32) → (Nat → Int32) → (Nat → Int32) → (Nat → Int32) → (Nat → Int32) → Option τ} (C : shC n P L M Y) (hp : 0 ≤ p) (hv : ordV (eB P L M Y) n p = v) (h : rsG (eB P L M Y) n Y old c any sz bef beh fy ly aB aH tab) (hk : ∀ o1 o2 o3 o4 o5 o6 o7 o8 o9 o10, rsG (eB P L M Y) n Y o1 o2 o3 o4 o5 o6 o7 o8 o9 o10 tab → Ok (k v o1 o2 o3 o4 o5 o6 o7 o8 o9 o10) R) : Ok ((f_X4_order p old (nI n) P L M Y c any sz bef beh fy ly aB aH).bind (u11 k)) R := by
  refine ok_bd (fun o => o.1 = v ∧ rsG (eB P L M Y) n Y o.2.1 o.2.2.1 o.2.2.2.1 o.2.2.2.2.1 o.2.2.2.2.2.1 o.2.2.2.2.2.2.1 o.2.2.2.2.2.2.2.1 o.2.2.2.2.2.2.2.2.1 o.2.2.2.2.2.2.2.2.2.1 o.2.2.2.2.2.2.2.2.2.2 tab) ?_ ?_
  · unfold f_X4_order
    refine ok_t hp ?_
    refine ok_bd _ (cr_e C.1 C.2.1 h) ?_
    rintro ⟨o1, o2, o3, o4, o5, o6, o7, o8, o9, o10⟩ ⟨e, h2, h3⟩
    dsimp only at e h2 h3
    dsimp only [u10]
    subst e
    have hz := h2.1
    subst hz
    refine ok_be (firstOrder_e C.1 hp (fun b hb => (h2.2.2 b hb).1.1) h2.2.1) ?_
    exact ok_s ⟨hv, Or.inl rfl, fun _ => ⟨h2, h3⟩⟩
  · rintro ⟨r, o1, o2, o3, o4, o5, o6, o7, o8, o9, o10⟩ ⟨e, h2⟩
    dsimp only at e h2
    subst e
    exact hk o1 o2 o3 o4 o5 o6 o7 o8 o9 o10 h2
theorem k_place {n : Nat} {P L M Y bef beh fy ly aB aH tab : Nat → Int32} {old c any sz w v : Int32} {τ : Type} {R : τ → Prop} {b : Nat} {k : Int32 → Int32 → Int32 → Int32 → Int32 → (Nat → Int32) → (Nat → Int32) → (Nat → Int32) → (Nat → Int32) → (Nat → Int32) → (Nat → Int32) → (Nat → Int32) → Option τ} (C : shC n P L M Y) (hb : b < n) (hw : w = 0 ∨ w = 1 ∨ w = 2) (hv : nPl (eB P L M Y) n b w = v) (h : rsG (eB P L M Y) n Y old c any sz bef beh fy ly aB aH tab) (hk : ∀ o1 o2 o3 o4 o5 o6 o7 o8 o9 o10 o11, rsG (eB P L M Y) n Y o1 o2 o3 o4 o5 o6 o7 o8 o9 o10 o11 → Ok (k v o1 o2 o3 o4 o5 o6 o7 o8 o9 o10 o11) R) : Ok ((f_X4_place (nI b) w old (nI n) P L M Y c any sz bef beh fy ly aB aH tab).bind (u12 k)) R := by
  refine ok_bd (fun o => o.1 = v ∧ rsG (eB P L M Y) n Y o.2.1 o.2.2.1 o.2.2.2.1 o.2.2.2.2.1 o.2.2.2.2.2.1 o.2.2.2.2.2.2.1 o.2.2.2.2.2.2.2.1 o.2.2.2.2.2.2.2.2.1 o.2.2.2.2.2.2.2.2.2.1 o.2.2.2.2.2.2.2.2.2.2.1 o.2.2.2.2.2.2.2.2.2.2.2) ?_ ?_
  · unfold f_X4_place
    refine ok_be (bk_1 C.1 hb) ?_
    refine ok_u1 ?_
    refine ok_f (by decide) ?_
    refine ok_jd ?_
    refine ok_f (by rcases hw with q | q | q <;> rw [q] <;> decide) ?_
    refine ok_t (by rcases hw with q | q | q <;> rw [q] <;> decide) ?_
    refine ok_bd _ (nPlace_e C.1 hb C.2.1 hw h) ?_
    rintro ⟨r, o1, o2, o3, o4, o5, o6, o7, o8, o9, o10, o11⟩ ⟨e, h2⟩
    exact ok_s ⟨e.trans hv, h2⟩
  · rintro ⟨r, o1, o2, o3, o4, o5, o6, o7, o8, o9, o10, o11⟩ ⟨e, h2⟩
    dsimp only at e h2
    subst e
    exact hk o1 o2 o3 o4 o5 o6 o7 o8 o9 o10 o11 h2
theorem k_wrong {n : Nat} {P L M Y bef beh fy ly aB aH tab : Nat → Int32} {old c any sz w v : Int32} {τ : Type} {R : τ → Prop} {k : Int32 → Int32 → Int32 → Int32 → Int32 → (Nat → Int32) → (Nat → Int32) → (Nat → Int32) → (Nat → Int32) → (Nat → Int32) → (Nat → Int32) → (Nat → Int32) → Option τ} (C : shC n P L M Y) (hw : (w = 0 ∧ nI (cd n (outN (eB P L M Y) n)) = v) ∨ (w = 1 ∧ nI (outN (eB P L M Y) n) = v)) (h : rsG (eB P L M Y) n Y old c any sz bef beh fy ly aB aH tab) (hk : ∀ o1 o2 o3 o4 o5 o6 o7 o8 o9 o10 o11, rsG (eB P L M Y) n Y o1 o2 o3 o4 o5 o6 o7 o8 o9 o10 o11 → Ok (k v o1 o2 o3 o4 o5 o6 o7 o8 o9 o10 o11) R) : Ok ((f_X4_wrong w old (nI n) P L M Y c any sz bef beh fy ly aB aH tab).bind (u12 k)) R := by
  refine ok_bd (fun o => o.1 = v ∧ rsG (eB P L M Y) n Y o.2.1 o.2.2.1 o.2.2.2.1 o.2.2.2.2.1 o.2.2.2.2.2.1 o.2.2.2.2.2.2.1 o.2.2.2.2.2.2.2.1 o.2.2.2.2.2.2.2.2.1 o.2.2.2.2.2.2.2.2.2.1 o.2.2.2.2.2.2.2.2.2.2.1 o.2.2.2.2.2.2.2.2.2.2.2) ?_ ?_
  · unfold f_X4_wrong
    have key : Ok ((f_X4_currentReading old (nI n) P L M Y c any sz bef beh fy ly aB aH).bind (u10 fun (o3 : Int32) (o4 : Int32) (o5 : Int32) (o6 : Int32) (o7 : Nat → Int32) (o8 : Nat → Int32) (o9 : Nat → Int32) (o10 : Nat → Int32) (o11 : Nat → Int32) (o12 : Nat → Int32) => (f_X1_leastWrongBooks o4 o5 o6 o7 tab).bind (u3 fun (r13 : Int32) (o14 : Int32) (o15 : Nat → Int32) => (jn (u1 fun (s16 : Int32) => some (s16, o3, o14, o5, o6, o7, o8, o9, o10, o11, o12, o15)) (fun K17 => (if w = 0 then (f_J6_bitCount_0f7a4 r13).bind (u1 fun (r18 : Int32) => K17 r18) else K17 r13)))))) (fun o => o.1 = v ∧ rsG (eB P L M Y) n Y o.2.1 o.2.2.1 o.2.2.2.1 o.2.2.2.2.1 o.2.2.2.2.2.1 o.2.2.2.2.2.2.1 o.2.2.2.2.2.2.2.1 o.2.2.2.2.2.2.2.2.1 o.2.2.2.2.2.2.2.2.2.1 o.2.2.2.2.2.2.2.2.2.2.1 o.2.2.2.2.2.2.2.2.2.2.2) := by
      refine ok_bd _ (cr_e C.1 C.2.1 h) ?_
      rintro ⟨o1, o2, o3, o4, o5, o6, o7, o8, o9, o10⟩ ⟨e, h2, h3⟩
      dsimp only at e h2 h3
      dsimp only [u10]
      subst e
      have hz := h2.1
      subst hz
      refine ok_bd _ (leastWrong_e C.1 (fun b hb => (h2.2.2 b hb).1.1) h2.2.1 h3) ?_
      rintro ⟨r, c2, t2⟩ ⟨e2, h4⟩
      dsimp only at e2 h4
      dsimp only [u3]
      subst e2
      refine ok_jd ?_
      rcases hw with ⟨q, hv⟩ | ⟨q, hv⟩
      · subst q
        refine ok_t rfl ?_
        refine ok_be (bc_e C.1 (out_lt (eB P L M Y) n)) ?_
        exact ok_s ⟨hv, Or.inl rfl, fun _ => ⟨h2, h4⟩⟩
      · subst q
        refine ok_f (by decide) ?_
        exact ok_s ⟨hv, Or.inl rfl, fun _ => ⟨h2, h4⟩⟩
    refine ok_jd ?_
    rcases hw with ⟨q, hv⟩ | ⟨q, hv⟩
    · subst q
      exact ok_t rfl key
    · subst q
      exact ok_f (by decide) (ok_t rfl key)
  · rintro ⟨r, o1, o2, o3, o4, o5, o6, o7, o8, o9, o10, o11⟩ ⟨e, h2⟩
    dsimp only at e h2
    subst e
    exact hk o1 o2 o3 o4 o5 o6 o7 o8 o9 o10 o11 h2
theorem k_tells {n : Nat} {P L M Y bef beh fy ly aB aH tab s1 s2 s3 s4 a1 a2 a3 a4 a5 a6 tb : Nat → Int32} {old c any sz z c' any' sz' : Int32} {l : Nat} {τ : Type} {R : τ → Prop} {k : Int32 → Int32 → Int32 → (Nat → Int32) → (Nat → Int32) → (Nat → Int32) → (Nat → Int32) → Int32 → Int32 → Int32 → (Nat → Int32) → (Nat → Int32) → (Nat → Int32) → (Nat → Int32) → (Nat → Int32) → (Nat → Int32) → (Nat → Int32) → Int32 → Int32 → Int32 → (Nat → Int32) → (Nat → Int32) → (Nat → Int32) → (Nat → Int32) → (Nat → Int32) → (Nat → Int32) → (Nat → Int32) → Option τ} (C : shC n P L M Y) (hl : l < 12) (h : rsG (eB P L M Y) n Y old c any sz bef beh fy ly aB aH tab) (hk : ∀ v q1 q2 q3 q4 q5 q6 q7 q8 q9 q10 q11 q12 q13 q14 q15 q16 q17 q18 q19 q20 q21 q22 q23 q24 q25 q26, 0 ≤ v → rsG (eB P L M Y) n Y q1 q7 q8 q9 q10 q11 q12 q13 q14 q15 q16 → Ok (k v q1 q2 q3 q4 q5 q6 q7 q8 q9 q10 q11 q12 q13 q14 q15 q16 q17 q18 q19 q20 q21 q22 q23 q24 q25 q26) R) : Ok ((f_X4_tells (nI l) old (nI n) P L M Y z s1 s2 s3 s4 c any sz bef beh fy ly aB aH tab c' any' sz' a1 a2 a3 a4 a5 a6 tb).bind (u27 k)) R := by
  refine ok_bd (fun o => 0 ≤ o.1 ∧ rsG (eB P L M Y) n Y o.2.1 o.2.2.2.2.2.2.2.1 o.2.2.2.2.2.2.2.2.1 o.2.2.2.2.2.2.2.2.2.1 o.2.2.2.2.2.2.2.2.2.2.1 o.2.2.2.2.2.2.2.2.2.2.2.1 o.2.2.2.2.2.2.2.2.2.2.2.2.1 o.2.2.2.2.2.2.2.2.2.2.2.2.2.1 o.2.2.2.2.2.2.2.2.2.2.2.2.2.2.1 o.2.2.2.2.2.2.2.2.2.2.2.2.2.2.2.1 o.2.2.2.2.2.2.2.2.2.2.2.2.2.2.2.2.1) ?_ ?_
  · unfold f_X4_tells
    have hl2 : (0 : Int32) ≤ nI l ∧ nI l ≤ 11 := ⟨Int32.not_lt.mp (nI_nneg (by omega)), (nI_leI (by omega) (show 11 < 2 ^ 31 by decide)).mpr (by omega)⟩
    refine ok_be (isLetter_e (nI l)) ?_
    rw [if_pos hl2]
    refine ok_u1 ?_
    refine ok_f (by decide) ?_
    refine ok_bd _ (owl_e C.1 C.2.1) ?_
    rintro ⟨r, p3, p4, p5, p6, p7, p8, p9, p10, p11, p12, p13, p14, p15, p16, p17⟩ e0
    dsimp only at e0
    dsimp only [u16]
    refine ok_bd _ (cr_e C.1 C.2.1 h) ?_
    rintro ⟨o1, o2, o3, o4, o5, o6, o7, o8, o9, o10⟩ ⟨e, h2, h3⟩
    dsimp only at e h2 h3
    dsimp only [u10]
    refine ok_bd _ (orV_e C.1 h2 h3) ?_
    rintro ⟨r2, c2, t2⟩ ⟨e2, h4⟩
    dsimp only at e2 h4
    dsimp only [u3]
    refine ok_s ⟨?_, Or.inl e, fun _ => ⟨h2, h4⟩⟩
    show 0 ≤ r - r2
    rw [e0, e2, pk_sub (fit_mono (E := eB P L M Y) (F := eB P (clL L (nI l)) M Y) (fun a b _ _ q => cl_sub q))]
    exact Int32.not_lt.mp (nI_nneg (by have := fit_bd (E := eB P (clL L (nI l)) M Y) C.1; omega))
  · rintro ⟨r, q1, q2, q3, q4, q5, q6, q7, q8, q9, q10, q11, q12, q13, q14, q15, q16, q17, q18, q19, q20, q21, q22, q23, q24, q25, q26⟩ ⟨e, h2⟩
    exact hk r q1 q2 q3 q4 q5 q6 q7 q8 q9 q10 q11 q12 q13 q14 q15 q16 q17 q18 q19 q20 q21 q22 q23 q24 q25 q26 e h2
theorem k_ifYear {n b : Nat} {P L M Y s1 s2 s3 s4 a1 a2 a3 a4 a5 a6 tb : Nat → Int32} {y z c' any' sz' : Int32} {τ : Type} {R : τ → Prop} {k : Int32 → Int32 → (Nat → Int32) → (Nat → Int32) → (Nat → Int32) → (Nat → Int32) → Int32 → Int32 → Int32 → (Nat → Int32) → (Nat → Int32) → (Nat → Int32) → (Nat → Int32) → (Nat → Int32) → (Nat → Int32) → (Nat → Int32) → Option τ} (C : shC n P L M Y) (hb : b < n) (hy : 1450 ≤ y ∧ y ≤ 1999) (hk : ∀ q1 q2 q3 q4 q5 q6 q7 q8 q9 q10 q11 q12 q13 q14 q15, Ok (k (nI (fitN (eB P L M (upd Y b y)) n)) q1 q2 q3 q4 q5 q6 q7 q8 q9 q10 q11 q12 q13 q14 q15) R) : Ok ((f_X4_ifYear (nI b) y 0 (nI n) P L M Y z s1 s2 s3 s4 c' any' sz' a1 a2 a3 a4 a5 a6 tb).bind (u16 k)) R := by
  refine ok_bd (fun o => o.1 = nI (fitN (eB P L M (upd Y b y)) n)) ?_ ?_
  · unfold f_X4_ifYear
    refine ok_be (bk_1 C.1 hb) ?_
    refine ok_u1 ?_
    refine ok_f (by decide) ?_
    refine ok_be (isYear_e y) ?_
    rw [if_pos hy]
    refine ok_u1 ?_
    refine ok_jd ?_
    refine ok_f (by decide) ?_
    refine ok_jd ?_
    refine ok_t rfl ?_
    refine ok_bd _ (nif_e C.1 hb C.2.1 hy) ?_
    rintro ⟨r, q1, q2, q3, q4, q5, q6, q7, q8, q9, q10, q11, q12, q13, q14, q15⟩ e
    exact ok_s e
  · rintro ⟨r, q1, q2, q3, q4, q5, q6, q7, q8, q9, q10, q11, q12, q13, q14, q15⟩ e
    dsimp only at e
    subst e
    exact hk q1 q2 q3 q4 q5 q6 q7 q8 q9 q10 q11 q12 q13 q14 q15
