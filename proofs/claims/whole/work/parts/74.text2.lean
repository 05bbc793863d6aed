/-! the reference's descent beside the class's reader -/
theorem ok_el {σ ρ τ : Type} {f : σ → Option τ} {g : ρ → Option τ} {x : σ} {R : τ → Prop} (h : Ok (f x) R) : Ok (Sum.elim f g (Sum.inl x)) R := h
theorem ok_er {σ ρ τ : Type} {f : σ → Option τ} {g : ρ → Option τ} {x : ρ} {R : τ → Prop} (h : Ok (g x) R) : Ok (Sum.elim f g (Sum.inr x)) R := h
def rns (text : Nat → Int32) (c0 : Cfg) : Nat → Cfg → Prop
  | 0, c => c = c0
  | k + 1, c => ∃ b, rns text c0 k b ∧ stp (text k) b = some (1, c)
theorem rns_uni {text : Nat → Int32} {c0 : Cfg} : ∀ {k : Nat} {b c : Cfg}, rns text c0 k b → rns text c0 k c → b = c
  | 0, _, _, h1, h2 => h1.trans h2.symm
  | k + 1, b, c, ⟨b', h1, h2⟩, ⟨c', h3, h4⟩ => by
    have := rns_uni h1 h3
    subst this
    rw [h2] at h4
    exact (Prod.mk.inj (Option.some.inj h4)).2
abbrev cmpQ (q : Int32) : Prop := q = 2 ∨ q = 3 ∨ q = 5 ∨ q = 6 ∨ q = 8
/-- the text stops at a: with a fault, or as it ends -/
def flP (text : Nat → Int32) (c0 : Cfg) (t a : Nat) (fault : Int32) : Prop := (fault = 1 ∧ a < t ∧ ∃ c c', rns text c0 a c ∧ stp (text a) c = some (0, c')) ∨ (fault = 0 ∧ a = t ∧ ∃ c, rns text c0 a c ∧ ¬ cmpQ c.2.1)
theorem fl_of {text : Nat → Int32} {c0 c : Cfg} {t a : Nat} (h : rns text c0 a c) (hq : ¬ cmpQ c.2.1) (ha : a ≤ t) (hr : a < t → ∃ c', stp (text a) c = some (0, c')) : flP text c0 t a (if a < t then 1 else 0) := by
  by_cases q : a < t
  · rw [if_pos q]
    obtain ⟨c', h1⟩ := hr q
    exact Or.inl ⟨rfl, q, c, c', h, h1⟩
  · rw [if_neg q]
    exact Or.inr ⟨rfl, by omega, c, h, hq⟩
theorem isAt_e {text : Nat → Int32} {t a : Nat} {lo hi : Int32} (ht : t ≤ 60) (ha : a ≤ t) : f_X5_isAt lo hi (nI t) (nI a) text = some (if a < t ∧ lo ≤ text a ∧ text a ≤ hi then 1 else 0) := by
  apply ok_eq
  unfold f_X5_isAt
  dsimp only [jn, u0, u1]
  by_cases q : a < t
  · refine ok_nle q (by omega) (ok_rd a rfl (by omega) (by decide) ?_)
    by_cases z : lo ≤ text a ∧ text a ≤ hi
    · rw [if_pos ⟨q, z⟩]
      exact ok_c1 f_in_e z (ok_f (by decide) (ok_gB (Or.inr rfl) (ok_s rfl)))
    · have hneg : ¬ (a < t ∧ lo ≤ text a ∧ text a ≤ hi) := fun y => z y.2
      rw [if_neg hneg]
      exact ok_c0 f_in_e z (ok_t rfl (ok_gB (Or.inl rfl) (ok_s rfl)))
  · have hneg : ¬ (a < t ∧ lo ≤ text a ∧ text a ≤ hi) := fun y => q y.1
    rw [if_neg hneg]
    exact ok_yle (by omega) (by omega) (ok_gB (Or.inl rfl) (ok_s rfl))
theorem stops_e {t a : Nat} {f : Int32} (ht : t ≤ 60) (ha : a ≤ t) : f_X5_stops (nI t) (nI a) f = some (0, if a < t then 1 else 0) := by
  apply ok_eq
  unfold f_X5_stops
  refine ok_jd ?_
  by_cases q : a < t
  · rw [if_pos q]
    exact ok_nle q (by omega) (ok_u1 (ok_gB (Or.inr rfl) (ok_s rfl)))
  · rw [if_neg q]
    exact ok_yle (by omega) (by omega) (ok_u1 (ok_gB (Or.inl rfl) (ok_s rfl)))
theorem i_one {x y : Int32} (h : y ≤ x ∧ x ≤ y) : x = y := i_le_anti h.2 h.1
section Text
variable {text told p l m y : Nat → Int32} {c0 : Cfg} {t a : Nat} {pa pr mo ye sc sz fault val : Int32} {r : Nat}
theorem areLetters_e (ht : t ≤ 60) (ha : a ≤ t) (hr : r + 3 < 124) (h : rns text c0 a (mkC pa 1 pr 0 mo ye sc sz p l m y)) :
    Ok (f_X5_areLetters (nI r) (nI t) (nI a) fault text told) (fun o => (o.1 = 1 ∧ o.2.2.1 = fault ∧ ∃ a' w q, a < a' ∧ a' ≤ t ∧ o.2.1 = nI a' ∧ w < 4096 ∧ (∀ j, j ≠ r + 1 → o.2.2.2 j = told j) ∧ o.2.2.2 (r + 1) = nI w ∧ rns text c0 a' (mkC pa q pr (nI w) mo ye sc sz p l m y) ∧ ((q = 2 ∧ (a' < t → ¬ isLt w (text a'))) ∨ q = 3)) ∨ (o.1 = 0 ∧ ∃ a', o.2.1 = nI a' ∧ flP text c0 t a' o.2.2.1)) := by
  unfold f_X5_areLetters
  refine ok_wr (r + 1) (nI_1 r) (by omega) (by decide) ?_
  by_cases q45 : a < t ∧ 45 ≤ text a ∧ text a ≤ 45
  · refine ok_c1 (isAt_e ht ha) q45 (ok_f (by decide) (ok_s (Or.inl ⟨rfl, rfl, a + 1, 0, 3, by omega, by omega, nI_1 a, by decide, fun j hj => by dsimp only; rw [pk_un hj], by dsimp only; rw [pk_us]; rfl, ?_, Or.inr rfl⟩)))
    refine ⟨_, h, ?_⟩
    rw [i_one q45.2]
    exact s1_d
  · refine ok_c0 (isAt_e ht ha) q45 (ok_t rfl ?_)
    by_cases ql : a < t ∧ 97 ≤ text a ∧ text a ≤ 108
    · refine ok_c1 (isAt_e ht ha) ql (ok_f (by decide) ?_)
      refine ok_wl (fun i s => ∃ f w q, i ≤ f ∧ f ≤ 12 ∧ a + i ≤ t ∧ s.1 = nI (97 + f) ∧ s.2.1 = nI (a + i) ∧ w < 2 ^ f ∧ (∀ j, j ≠ r + 1 → s.2.2 j = told j) ∧ s.2.2 (r + 1) = nI w ∧ rns text c0 (a + i) (mkC pa q pr (nI w) mo ye sc sz p l m y) ∧ ((i = 0 ∧ f = 0 ∧ w = 0 ∧ q = 1) ∨ (0 < i ∧ q = 2 ∧ 2 ^ (f - 1) ≤ w)))
        (fun o => ∃ a' w, a < a' ∧ a' ≤ t ∧ o.1 = nI a' ∧ w < 4096 ∧ (∀ j, j ≠ r + 1 → o.2 j = told j) ∧ o.2 (r + 1) = nI w ∧ rns text c0 a' (mkC pa 2 pr (nI w) mo ye sc sz p l m y) ∧ (a' < t → ¬ isLt w (text a'))) 12 (by omega)
        ⟨0, 0, 1, by omega, by omega, by omega, rfl, rfl, by decide, fun j hj => by dsimp only; rw [pk_un hj], by dsimp only; rw [pk_us]; rfl, h, Or.inl ⟨rfl, rfl, rfl, rfl⟩⟩ ?_ ?_ ?_
      · rintro i ⟨l2, w5, w6⟩ hi ⟨f, w, q, hf, hf12, hai, e1, e2, hw, hA, hB, hr2, hc⟩
        dsimp only at e1 e2 hA hB
        subst e1 e2
        refine ok_u3 ?_
        have hpw : 2 ^ f ≤ 4096 := Nat.pow_le_pow_right (by decide) hf12
        by_cases qa : a + i < t ∧ nI (97 + f) ≤ text (a + i) ∧ text (a + i) ≤ 108
        · obtain ⟨k', k1, k2, ek⟩ := rng_of (lo := 97 + f) (hi := 108) (by decide) qa.2.1 qa.2.2 (by
            rcases Nat.lt_or_ge f 12 with z | z
            · omega
            · exfalso
              have h1 := Int32.le_trans qa.2.1 qa.2.2
              have h2 := (nI_leI (a := 97 + f) (b := 108) (by omega) (by omega)).mp h1
              omega)
          obtain ⟨k, rfl⟩ : ∃ k, k' = 97 + k := ⟨k' - 97, by omega⟩
          have hfk : f ≤ k := by omega
          have hk : k ≤ 11 := by omega
          have hwk : w < 2 ^ k := Nat.lt_of_lt_of_le hw (Nat.pow_le_pow_right (by decide) hfk)
          refine ok_c1 (isAt_e ht hai) qa (ok_f (by decide) (ok_rd (r + 1) (nI_1 r) (by omega) (by decide) (ok_rd (a + i) rfl (by omega) (by decide) (ok_wr (r + 1) (nI_1 r) (by omega) (by decide) (ok_rd (a + i) rfl (by omega) (by decide) (ok_s ?_))))))
          have e3 : nI (97 + k) - 97 = nI k := by
            rw [show (97 : Int32) = nI 97 from rfl, pk_sub (by omega), Nat.add_sub_cancel_left]
          rw [ek, e3, hB, iN_shl k (by omega), iN_or]
          refine ⟨k + 1, w ||| 2 ^ k, 2, by omega, by omega, by omega, nI_1 _, nI_1 _, Nat.or_lt_two_pow (Nat.lt_trans hwk (Nat.pow_lt_pow_right (by decide) (by omega))) (Nat.pow_lt_pow_right (by decide) (by omega)), fun j hj => by dsimp only; rw [pk_un hj]; exact hA j hj, by dsimp only; rw [pk_us], ⟨_, hr2, ?_⟩, Or.inr ⟨by omega, rfl, Nat.right_le_or⟩⟩
          show stp (text (a + i)) _ = _
          rw [ek]
          rcases hc with ⟨-, -, rfl, rfl⟩ | ⟨-, rfl, -⟩
          · rw [Nat.zero_or]
            exact s1_l hk
          · exact s2_l hk hwk
        · refine ok_c0 (isAt_e ht hai) qa (ok_t rfl (ok_s ?_))
          rcases hc with ⟨rfl, rfl, -, -⟩ | ⟨hi0, rfl, hw2⟩
          · exact absurd ql qa
          · refine ⟨a + i, w, by omega, hai, rfl, by omega, hA, hB, hr2, fun hlt => ?_⟩
            rintro ⟨k, hk, ek, hwk⟩
            apply qa
            rw [ek]
            refine ⟨hlt, nI_le ?_ (by omega), nI_le (b := 108) (by omega) (by omega)⟩
            rcases Nat.lt_or_ge k f with z | z
            · have : 2 ^ k ≤ 2 ^ (f - 1) := Nat.pow_le_pow_right (by decide) (by omega)
              omega
            · omega
      · rintro ⟨l2, w5, w6⟩ ⟨f, w, q, hf, hf12, hai, e1, e2, hw, hA, hB, hr2, hc⟩
        dsimp only at e1 e2 hA hB
        have : f = 12 := by omega
        subst this e1 e2
        refine ok_u3 (ok_c0 (isAt_e ht hai) (fun z => ?_) (ok_t rfl (ok_s ?_)))
        · have h1 := Int32.le_trans z.2.1 z.2.2
          exact absurd ((nI_leI (a := 97 + 12) (b := 108) (by omega) (by omega)).mp h1) (by omega)
        · rcases hc with ⟨hi0, -, -, -⟩ | ⟨hi0, rfl, hw2⟩
          · omega
          · refine ⟨a + 12, w, by omega, hai, rfl, by omega, hA, hB, hr2, fun hlt => ?_⟩
            rintro ⟨k, hk, ek, hwk⟩
            have : 2 ^ k ≤ 2 ^ (12 - 1) := Nat.pow_le_pow_right (by decide) (by omega)
            omega
      · rintro ⟨w7, w8⟩ ⟨a', w, g1, g2, g3, g4, g5, g6, g7, g8⟩
        exact ok_u2 (ok_s (Or.inl ⟨rfl, rfl, a', w, 2, g1, g2, g3, g4, g5, g6, g7, Or.inl ⟨rfl, g8⟩⟩))
    · refine ok_c0 (isAt_e ht ha) ql (ok_t rfl (ok_be (stops_e ht ha) (ok_u2 (ok_gB (Or.inl rfl) (ok_s (Or.inr ⟨rfl, a, rfl, ?_⟩))))))
      refine fl_of h (by show ¬ cmpQ 1; unfold cmpQ; decide) ha (fun hlt => s1_0 (fun z => q45 ⟨hlt, by rw [z]; decide⟩) (fun z => ql ⟨hlt, z⟩))
theorem isToldMould_e {w : Nat} {q : Int32} (ht : t ≤ 60) (ha : a < t) (hr : r + 3 < 124) (hw : w < 4096) (hq : q = 2 ∨ q = 3) (hx : text a = 109) (h : rns text c0 a (mkC pa q pr (nI w) mo ye sc sz p l m y)) :
    Ok (f_X5_isToldMould (nI r) (nI t) (nI a) fault val text told) (fun o => (o.1 = 1 ∧ o.2.2.1 = fault ∧ ∃ a' v q', a < a' ∧ a' ≤ t ∧ o.2.1 = nI a' ∧ v ≤ 99 ∧ (∀ j, j ≠ r + 2 → o.2.2.2.2 j = told j) ∧ o.2.2.2.2 (r + 2) = nI v ∧ rns text c0 a' (mkC pa q' pr (nI w) (nI v) ye sc sz p l m y) ∧ ((q' = 5 ∧ (a' < t → ¬ (48 ≤ text a' ∧ text a' ≤ 57))) ∨ q' = 6)) ∨ (o.1 = 0 ∧ ∃ a', o.2.1 = nI a' ∧ flP text c0 t a' o.2.2.1)) := by
  unfold f_X5_isToldMould
  have h1 : rns text c0 (a + 1) (mkC pa 4 pr (nI w) 0 ye sc sz p l m y) := ⟨_, h, by rw [hx]; exact s23_m hw hq⟩
  rw [nI_1]
  by_cases qd : a + 1 < t ∧ 48 ≤ text (a + 1) ∧ text (a + 1) ≤ 57
  · obtain ⟨d, hd, e1, e2⟩ := dig_of qd.2
    refine ok_c1 (isAt_e ht (by omega)) qd (ok_f (by decide) (ok_rd (a + 1) rfl (by omega) (by decide) (ok_jd ?_)))
    have h2 : rns text c0 (a + 2) (mkC pa (if d = 0 then 6 else 5) pr (nI w) (nI d) ye sc sz p l m y) := ⟨_, h1, by rw [e1]; exact s4_d hd⟩
    rw [e2, nI_1]
    by_cases d0 : d = 0
    · subst d0
      refine ok_t (Int32.le_refl _) (ok_u2 (ok_wr (r + 2) (nI_add r 2) (by omega) (by decide) (ok_s (Or.inl ⟨rfl, rfl, a + 2, 0, 6, by omega, by omega, rfl, by omega, fun j hj => by dsimp only; rw [pk_un hj], by dsimp only; rw [pk_us], h2, Or.inr rfl⟩))))
    · rw [if_neg d0] at h2
      refine ok_f (nI_nle (by omega) (by omega)) ?_
      by_cases qd2 : a + 2 < t ∧ 48 ≤ text (a + 2) ∧ text (a + 2) ≤ 57
      · obtain ⟨d', hd', e3, e4⟩ := dig_of qd2.2
        refine ok_c1 (isAt_e (a := a + 2) ht (by omega)) qd2 (ok_f (by decide) (ok_rd (a + 2) rfl (by omega) (by decide) (ok_u2 (ok_wr (r + 2) (nI_add r 2) (by omega) (by decide) (ok_s (Or.inl ⟨rfl, rfl, a + 3, 10 * d + d', 6, by omega, by omega, nI_1 _, by omega, fun j hj => by dsimp only; rw [pk_un hj], ?_, ⟨_, h2, by rw [e3]; exact s5_d (by omega) hd'⟩, Or.inr rfl⟩))))))
        dsimp only
        rw [pk_us, e3, show (10 : Int32) = nI 10 from rfl, pk_mul, nI_add, show (48 : Int32) = nI 48 from rfl, pk_sub (by omega)]
        congr 1
        omega
      · refine ok_c0 (isAt_e (a := a + 2) ht (by omega)) qd2 (ok_t rfl (ok_u2 (ok_wr (r + 2) (nI_add r 2) (by omega) (by decide) (ok_s (Or.inl ⟨rfl, rfl, a + 2, d, 5, by omega, by omega, rfl, by omega, fun j hj => by dsimp only; rw [pk_un hj], by dsimp only; rw [pk_us], h2, Or.inl ⟨rfl, fun hlt z => qd2 ⟨hlt, z⟩⟩⟩)))))
  · refine ok_c0 (isAt_e ht (by omega)) qd (ok_t rfl (ok_be (stops_e ht (by omega)) (ok_u2 (ok_gB (Or.inl rfl) (ok_s (Or.inr ⟨rfl, a + 1, rfl, ?_⟩))))))
    exact fl_of h1 (by show ¬ cmpQ 4; unfold cmpQ; decide) (by omega) (fun hlt => s4_0 (fun z => qd ⟨hlt, z⟩))
theorem isToldYear_e {w : Nat} {q : Int32} (ht : t ≤ 60) (ha : a < t) (hr : r + 3 < 124) (hw : w < 4096) (hx : text a = 121) (hq : tlS q w 121) (h : rns text c0 a (mkC pa q pr (nI w) mo ye sc sz p l m y)) :
    Ok (f_X5_isToldYear (nI r) (nI t) (nI a) fault val text told) (fun o => (o.1 = 1 ∧ o.2.2.1 = fault ∧ ∃ a' v sc', a < a' ∧ a' ≤ t ∧ o.2.1 = nI a' ∧ 1450 ≤ v ∧ v ≤ 1999 ∧ (∀ j, j ≠ r + 3 → o.2.2.2.2 j = told j) ∧ o.2.2.2.2 (r + 3) = nI v ∧ rns text c0 a' (mkC pa 8 pr (nI w) mo (nI v) sc' sz p l m y)) ∨ (o.1 = 0 ∧ ∃ a', o.2.1 = nI a' ∧ flP text c0 t a' o.2.2.1)) := by
  unfold f_X5_isToldYear
  have h1 : rns text c0 (a + 1) (mkC pa 7 pr (nI w) mo (nI 0) (nI (ySc 0)) sz p l m y) := ⟨_, h, by rw [hx]; exact tl_y hw hq⟩
  rw [nI_1]
  refine ok_wl (fun i s => ∃ v, s.1 = nI i ∧ s.2.1 = nI (a + 1 + i) ∧ s.2.2 = nI v ∧ a + 1 + i ≤ t ∧ ((i < 4 ∧ yVal i v ∧ rns text c0 (a + 1 + i) (mkC pa 7 pr (nI w) mo (nI v) (nI (ySc i)) sz p l m y)) ∨ (i = 4 ∧ 1450 ≤ v ∧ v ≤ 1999 ∧ ∃ sc', rns text c0 (a + 1 + i) (mkC pa 8 pr (nI w) mo (nI v) sc' sz p l m y))))
    (Sum.elim (fun o => ∃ a', o.1 = nI a' ∧ a' ≤ t ∧ flP text c0 t a' (if a' < t then 1 else 0)) (fun o => ∃ v sc', o.1 = nI (a + 1 + 4) ∧ a + 1 + 4 ≤ t ∧ o.2 = nI v ∧ 1450 ≤ v ∧ v ≤ 1999 ∧ rns text c0 (a + 1 + 4) (mkC pa 8 pr (nI w) mo (nI v) sc' sz p l m y))) 4 (by omega) ⟨0, rfl, rfl, rfl, by omega, Or.inl ⟨by omega, Or.inl ⟨rfl, rfl⟩, h1⟩⟩ ?_ ?_ ?_
  · rintro i ⟨l2, w2, w3⟩ hi ⟨v, e1, e2, e3, hle, hc⟩
    dsimp only at e1 e2 e3
    subst e1 e2 e3
    rcases hc with ⟨-, hv, hr2⟩ | ⟨hi4, -⟩
    case inr => omega
    refine ok_u3 (ok_nle (a := 4) hi (by omega) (ok_jn (fun s8 => s8 = nI (48 + yLo i v)) ?_ ?_))
    · rintro _ rfl
      refine ok_u1 (ok_jn (fun s10 => s10 = nI (48 + yHi i)) ?_ ?_)
      · rintro _ rfl
        refine ok_u1 ?_
        by_cases qd : a + 1 + i < t ∧ nI (48 + yLo i v) ≤ text (a + 1 + i) ∧ text (a + 1 + i) ≤ nI (48 + yHi i)
        · have hd1 : 48 ≤ text (a + 1 + i) ∧ text (a + 1 + i) ≤ 57 := ⟨Int32.le_trans (nI_le (a := 48) (by omega) (by unfold yLo; split <;> (try split) <;> (try split) <;> omega)) qd.2.1, Int32.le_trans qd.2.2 (nI_le (b := 57) (by unfold yHi; split <;> omega) (by omega))⟩
          obtain ⟨d, hd, e4, e5⟩ := dig_of hd1
          have hlo : yLo i v ≤ d ∧ d ≤ yHi i := by
            have g1 := qd.2.1
            have g2 := qd.2.2
            rw [e4] at g1 g2
            have g3 := (nI_leI (by unfold yLo; split <;> (try split) <;> (try split) <;> omega) (by omega)).mp g1
            have g4 := (nI_leI (by omega) (by unfold yHi; split <;> omega)).mp g2
            omega
          have hs := s7_d (pa := pa) (pr := pr) (le := nI w) (mo := mo) (sz := sz) (p := p) (l := l) (m := m) (y := y) hi hv hd hlo
          refine ok_c1 (isAt_e ht hle) qd (ok_f (by decide) (ok_rd (a + 1 + i) rfl (by omega) (by decide) (ok_s ⟨10 * v + d, nI_1 i, nI_1 _, ?_, by omega, ?_⟩)))
          · dsimp only
            rw [e4, show (10 : Int32) = nI 10 from rfl, pk_mul, nI_add, show (48 : Int32) = nI 48 from rfl, pk_sub (by omega)]
            congr 1
            omega
          · rw [← e4] at hs
            have h3 : rns text c0 (a + 1 + i + 1) _ := ⟨_, hr2, hs⟩
            match i, hi with
            | 0, _ =>
              refine Or.inl ⟨by omega, Or.inr (Or.inl ⟨rfl, ?_⟩), h3⟩
              rcases hv with z | z | z | z
              · have : yLo 0 v = 1 := rfl
                have : yHi 0 = 1 := rfl
                omega
              · omega
              · omega
              · omega
            | 1, _ =>
              refine Or.inl ⟨by omega, Or.inr (Or.inr (Or.inl ⟨rfl, ?_, ?_⟩)), h3⟩
              · rcases hv with z | z | z | z
                · omega
                · have : yLo 1 v = 4 := rfl
                  omega
                · omega
                · omega
              · rcases hv with z | z | z | z <;> omega
            | 2, _ =>
              refine Or.inl ⟨by omega, Or.inr (Or.inr (Or.inr ⟨rfl, ?_, ?_⟩)), h3⟩
              · rcases hv with z | z | z | z
                · omega
                · omega
                · by_cases v14 : v = 14
                  · have : yLo 2 v = 5 := by unfold yLo; rw [if_neg (by omega), if_neg (by omega), if_pos ⟨rfl, v14⟩]
                    omega
                  · omega
                · omega
              · rcases hv with z | z | z | z <;> omega
            | 3, _ =>
              refine Or.inr ⟨rfl, ?_, ?_, _, h3⟩
              · rcases hv with z | z | z | z <;> omega
              · rcases hv with z | z | z | z <;> omega
            | i + 4, hi => omega
        · refine ok_c0 (isAt_e ht hle) qd (ok_t rfl (ok_s ⟨a + 1 + i, rfl, hle, ?_⟩))
          exact fl_of hr2 (by show ¬ cmpQ 7; unfold cmpQ; decide) hle (fun hlt => s7_0 hi hv (fun z => qd ⟨hlt, z⟩))
      · intro K hK
        by_cases i0 : i = 0
        · subst i0
          exact ok_t rfl (hK _ rfl)
        · refine ok_f (nI_ne0 (by omega) (by omega)) (hK _ ?_)
          rw [yHi, if_neg i0]; rfl
    · intro K hK
      match i, hi with
      | 0, _ => exact ok_t rfl (hK _ rfl)
      | 1, _ => exact ok_f (by decide) (ok_t rfl (hK _ rfl))
      | 2, _ =>
        refine ok_f (by decide) (ok_f (by decide) (ok_jd (ok_t rfl ?_)))
        have hv2 : v ≤ 19 := by rcases hv with z | z | z | z <;> omega
        by_cases v14 : v = 14
        · refine ok_t (by rw [v14]; rfl) (hK _ ?_)
          rw [yLo, if_neg (by omega), if_neg (by omega), if_pos ⟨rfl, v14⟩]; rfl
        · refine ok_f (nI_ne (b := 14) v14 (by omega) (by omega)) (ok_u0 (hK _ ?_))
          rw [yLo, if_neg (by omega), if_neg (by omega), if_neg (fun z => v14 z.2)]; rfl
      | 3, _ =>
        refine ok_f (by decide) (ok_f (by decide) (ok_jd (ok_f (by decide) (ok_u0 (hK _ ?_)))))
        rw [yLo, if_neg (by omega), if_neg (by omega), if_neg (fun z => absurd z.1 (by omega))]; rfl
      | i + 4, hi => omega
  · rintro ⟨l2, w2, w3⟩ ⟨v, e1, e2, e3, hle, hc⟩
    dsimp only at e1 e2 e3
    subst e1 e2 e3
    rcases hc with ⟨hi4, -⟩ | ⟨-, g1, g2, sc', g3⟩
    case inl => omega
    refine ok_u3 ?_
    rw [if_pos (show (4 : Int32) ≤ nI 4 by decide)]
    exact ok_s ⟨v, sc', rfl, hle, rfl, g1, g2, g3⟩
  · rintro (⟨w4, w5⟩ | ⟨w6, w7⟩) hr2
    · obtain ⟨a', e1, g1, g2⟩ := hr2
      dsimp only at e1
      subst e1
      exact ok_u2 (ok_be (stops_e ht g1) (ok_u2 (ok_gB (Or.inl rfl) (ok_s (Or.inr ⟨rfl, a', rfl, g2⟩)))))
    · obtain ⟨v, sc', e1, g0, e2, g1, g2, g3⟩ := hr2
      dsimp only at e1 e2
      subst e1 e2
      exact ok_u2 (ok_wr (r + 3) (nI_add r 3) (by omega) (by decide) (ok_s (Or.inl ⟨rfl, rfl, a + 1 + 4, v, sc', by omega, g0, rfl, g1, g2, fun j hj => by dsimp only; rw [pk_un hj], by dsimp only; rw [pk_us], g3⟩)))
end Text
