/-! a book as a text, books, on both sides -/
def yrT (v : Int32) : Prop := v = -1 ∨ (1450 ≤ v ∧ v ≤ 1999)
/-- at a: what a part's end allows -/
def clsd (text : Nat → Int32) (t a : Nat) (pa q pr : Int32) (w : Nat) (mo ye sc : Int32) (z : Nat) (p l m y : Nat → Int32) : Prop :=
  cmpQ q ∧ (a < t → text a = 59 → stp (text a) (mkC pa q pr (nI w) mo ye sc (nI z) p l m y) = some (1, endC pa pr (nI w) mo ye sc z p l m y)) ∧ (a < t → text a ≠ 59 → ∃ c, stp (text a) (mkC pa q pr (nI w) mo ye sc (nI z) p l m y) = some (0, c))
section Text3
variable {text told p l m y : Nat → Int32} {c0 : Cfg} {t a : Nat} {pa pr mo ye sc fault val : Int32}
theorem yearPart_e {e w z : Nat} {q : Int32} {τ : Type} {R : τ → Prop} {KS KF : Int32 × Int32 × Int32 × (Nat → Int32) → Option τ} (ht : t ≤ 60) (ha : a ≤ t) (hr : 4 * e + 3 < 124) (hw : w < 4096) (hz : z ≤ 10) (hq : cmpQ q) (hT : a < t → tlS q w (text a)) (h3 : told (4 * e + 3) = -1)
    (h : rns text c0 a (mkC pa q pr (nI w) mo (-1) sc (nI z) p l m y))
    (hS : ∀ (a' : Nat) (q' ye' sc' v : Int32) (g : Nat → Int32), a ≤ a' → a' ≤ t → (∀ j, j ≠ 4 * e + 3 → g j = told j) → g (4 * e + 3) = ye' → yrT ye' → rns text c0 a' (mkC pa q' pr (nI w) mo ye' sc' (nI z) p l m y) → clsd text t a' pa q' pr w mo ye' sc' z p l m y → Ok (KS (nI a', fault, v, g)) R)
    (hF : ∀ (a' : Nat) (f v : Int32) (g : Nat → Int32), flP text c0 t a' f → Ok (KF (nI a', f, v, g)) R) :
    Ok ((f_X5_isAt 121 121 (nI t) (nI a) text).bind (u1 fun (r27 : Int32) => (if r27 = 0 then KS (nI a, fault, val, told) else (f_X5_isToldYear (nI (4 * e)) (nI t) (nI a) fault val text told).bind (u5 fun (r33 : Int32) (o34 : Int32) (o35 : Int32) (o36 : Int32) (o37 : Nat → Int32) => (if r33 = 0 then KF (o34, o35, o36, o37) else KS (o34, o35, o36, o37)))))) R := by
  by_cases q1 : a < t ∧ 121 ≤ text a ∧ text a ≤ 121
  · have hx := i_one q1.2
    have hT1 := hT q1.1
    rw [hx] at hT1
    refine ok_c1 (isAt_e ht ha) q1 (ok_f (by decide) (ok_bd _ (isToldYear_e ht q1.1 hr hw hx hT1 h) ?_))
    rintro ⟨r, o34, o35, o36, o37⟩ (⟨e1, e2, a', v, sc', g1, g2, g3, g4, g5, g6, g7, g8⟩ | ⟨e1, a', e2, g1⟩)
    · dsimp only at e1 e2 g3 g6 g7
      subst e1 e2 g3
      refine ok_u5 (ok_f (by decide) (hS a' 8 (nI v) sc' o36 o37 (by omega) g2 g6 g7 (Or.inr ⟨nI_le (a := 1450) g4 (by omega), nI_le (b := 1999) g5 (by omega)⟩) g8 ⟨by unfold cmpQ; decide, fun _ hx => ?_, fun _ hx => ?_⟩))
      · rw [hx]; exact s8_e hz
      · exact s8_0 hx
    · dsimp only at e1 e2 g1
      subst e1 e2
      exact ok_u5 (ok_t rfl (hF a' o35 o36 o37 g1))
  · refine ok_c0 (isAt_e ht ha) q1 (ok_t rfl (hS a q (-1) sc val told (Nat.le_refl a) ha (fun _ _ => rfl) h3 (Or.inl rfl) h ⟨hq, fun hlt hx => ?_, fun hlt hx => ?_⟩))
    · have hT1 := hT hlt
      rw [hx] at hT1 ⊢
      exact tl_e hw hz hT1
    · exact tl_0 hw (fun z => q1 ⟨hlt, by rw [z]; decide⟩) hx (hT hlt)
theorem isPart_e {e z : Nat} {le : Int32} (ht : t ≤ 60) (ha : a ≤ t) (hr : 4 * e + 3 < 124) (hz : z ≤ 10) (h : rns text c0 a (mkC pa 0 pr le mo ye sc (nI z) p l m y)) :
    Ok (f_X5_isPart (nI t) (nI a) fault val (nI e) text told) (fun o => (o.1 = 1 ∧ o.2.2.1 = fault ∧ ∃ (a' w : Nat) (q' pr' mo' ye' sc' : Int32), a + 2 ≤ a' ∧ a' ≤ t ∧ o.2.1 = nI a' ∧ (∀ j, j < 4 * e → o.2.2.2.2 j = told j) ∧ o.2.2.2.2 (4 * e) = pr' ∧ o.2.2.2.2 (4 * e + 1) = nI w ∧ o.2.2.2.2 (4 * e + 2) = mo' ∧ o.2.2.2.2 (4 * e + 3) = ye' ∧ w < 4096 ∧ -1 ≤ mo' ∧ yrT ye' ∧ rns text c0 a' (mkC (pa + 1) q' pr' (nI w) mo' ye' sc' (nI z) p l m y) ∧ clsd text t a' (pa + 1) q' pr' w mo' ye' sc' z p l m y) ∨ (o.1 = 0 ∧ ∃ a', o.2.1 = nI a' ∧ flP text c0 t a' o.2.2.1)) := by
  unfold f_X5_isPart
  refine ok_wr (4 * e + 2) (nI_42 e) (by omega) (by decide) (ok_wr (4 * e + 3) (nI_43 e) (by omega) (by decide) ?_)
  by_cases q0 : a < t ∧ 48 ≤ text a ∧ text a ≤ 50
  · refine ok_c1 (isAt_e ht ha) q0 (ok_f (by decide) (ok_rd a rfl (by omega) (by decide) (ok_wr (4 * e) (nI_4 e) (by omega) (by decide) ?_)))
    have h1 : rns text c0 (a + 1) (mkC (pa + 1) 1 (text a - 48) 0 (-1) (-1) sc (nI z) p l m y) := ⟨_, h, s0_1 q0.2⟩
    rw [nI_1, nI_4]
    refine ok_bd _ (areLetters_e ht (by omega) (by omega) h1) ?_
    rintro ⟨r6, o7, o8, o9⟩ (⟨e1, e2, a1, w, q, g1, g2, g3, g4, g5, g6, g7, g8⟩ | ⟨e1, a', e2, g1⟩)
    · dsimp only at e1 e2 g3 g5 g6
      subst e1 e2 g3
      have k0 : o9 (4 * e) = text a - 48 := by rw [g5 _ (by omega), pk_us]
      have k2 : o9 (4 * e + 2) = -1 := by rw [g5 _ (by omega), pk_un (by omega), pk_un (by omega), pk_us]
      have k3 : o9 (4 * e + 3) = -1 := by rw [g5 _ (by omega), pk_un (by omega), pk_us]
      have kj : ∀ j, j < 4 * e → o9 j = told j := fun j hj => by rw [g5 _ (by omega), pk_un (by omega), pk_un (by omega), pk_un (by omega)]
      have hq23 : q = 2 ∨ q = 3 := by
        rcases g8 with z | z
        · exact Or.inl z.1
        · exact Or.inr z
      refine ok_u4 (ok_jd (ok_jd (ok_f (by decide) ?_)))
      by_cases qm : a1 < t ∧ 109 ≤ text a1 ∧ text a1 ≤ 109
      · refine ok_c1 (isAt_e ht g2) qm (ok_jd (ok_f (by decide) (ok_bd _ (isToldMould_e ht qm.1 (by omega) g4 hq23 (i_one qm.2) g7) ?_)))
        rintro ⟨r38, o39, o40, o41, o42⟩ (⟨e1, e2, a2, v, q', f1, f2, f3, f4, f5, f6, f7, f8⟩ | ⟨e1, a', e2, f1⟩)
        · dsimp only at e1 e2 f3 f5 f6
          subst e1 e2 f3
          refine ok_u5 (ok_f (by decide) (ok_u4 ?_))
          have hT : a2 < t → tlS q' w (text a2) := fun hlt => by
            rcases f8 with ⟨f8, f9⟩ | f8
            · exact Or.inr (Or.inr (Or.inl ⟨f8, f9 hlt⟩))
            · exact Or.inr (Or.inr (Or.inr f8))
          have hc : cmpQ q' := by
            rcases f8 with ⟨f8, -⟩ | f8
            · rw [f8]; unfold cmpQ; decide
            · rw [f8]; unfold cmpQ; decide
          refine ok_jd (yearPart_e ht f2 hr g4 hz hc hT (by rw [f5 _ (by omega)]; exact k3) f7 ?_ ?_)
          · intro a' q' ye' sc' v' g j1 j2 j3 j4 j5 j6 j7
            exact ok_u4 (ok_u5 (ok_gB (Or.inr rfl) (ok_s (Or.inl ⟨rfl, rfl, a', w, q', text a - 48, nI v, ye', sc', by omega, j2, rfl, fun j hj => by dsimp only; rw [j3 _ (by omega), f5 _ (by omega)]; exact kj j hj, by dsimp only; rw [j3 _ (by omega), f5 _ (by omega)]; exact k0, by dsimp only; rw [j3 _ (by omega), f5 _ (by omega)]; exact g6, by dsimp only; rw [j3 _ (by omega)]; exact f6, j4, g4, Int32.le_trans (by decide) (nI_pos' (n := v) (by omega)), j5, j6, j7⟩))))
          · intro a' f v' g j1
            exact ok_u4 (ok_u5 (ok_gB (Or.inl rfl) (ok_s (Or.inr ⟨rfl, a', rfl, j1⟩))))
        · dsimp only at e1 e2 f1
          subst e1 e2
          exact ok_u5 (ok_t rfl (ok_u4 (ok_u5 (ok_gB (Or.inl rfl) (ok_s (Or.inr ⟨rfl, a', rfl, f1⟩))))))
      · refine ok_c0 (isAt_e ht g2) qm (ok_jd (ok_t rfl (ok_u4 ?_)))
        have hT : a1 < t → tlS q w (text a1) := fun hlt => by
          have hm : text a1 ≠ 109 := fun z => qm ⟨hlt, by rw [z]; decide⟩
          rcases g8 with ⟨g8, g9⟩ | g8
          · exact Or.inl ⟨g8, g9 hlt, hm⟩
          · exact Or.inr (Or.inl ⟨g8, hm⟩)
        have hc : cmpQ q := by
          rcases hq23 with z | z
          · rw [z]; unfold cmpQ; decide
          · rw [z]; unfold cmpQ; decide
        refine ok_jd (yearPart_e ht g2 hr g4 hz hc hT k3 g7 ?_ ?_)
        · intro a' q' ye' sc' v' g j1 j2 j3 j4 j5 j6 j7
          exact ok_u4 (ok_u5 (ok_gB (Or.inr rfl) (ok_s (Or.inl ⟨rfl, rfl, a', w, q', text a - 48, -1, ye', sc', by omega, j2, rfl, fun j hj => by dsimp only; rw [j3 _ (by omega)]; exact kj j hj, by dsimp only; rw [j3 _ (by omega)]; exact k0, by dsimp only; rw [j3 _ (by omega)]; exact g6, by dsimp only; rw [j3 _ (by omega)]; exact k2, j4, g4, Int32.le_refl _, j5, j6, j7⟩))))
        · intro a' f v' g j1
          exact ok_u4 (ok_u5 (ok_gB (Or.inl rfl) (ok_s (Or.inr ⟨rfl, a', rfl, j1⟩))))
    · dsimp only at e1 e2 g1
      subst e1 e2
      exact ok_u4 (ok_jd (ok_jd (ok_t rfl (ok_u4 (ok_u5 (ok_gB (Or.inl rfl) (ok_s (Or.inr ⟨rfl, a', rfl, g1⟩))))))))
  · refine ok_c0 (isAt_e ht ha) q0 (ok_t rfl (ok_be (stops_e ht ha) (ok_u2 (ok_gB (Or.inl rfl) (ok_s (Or.inr ⟨rfl, a, rfl, ?_⟩))))))
    exact fl_of h (by show ¬ cmpQ 0; unfold cmpQ; decide) ha (fun hlt => s0_0 (fun z => q0 ⟨hlt, z⟩))
/-- what the reference is told of its first e books -/
def tdR (e : Nat) (told : Nat → Int32) : Prop := ∀ j, j < e → (0 ≤ told (4 * j + 1) ∧ told (4 * j + 1) ≤ 4095) ∧ -1 ≤ told (4 * j + 2) ∧ yrT (told (4 * j + 3))
/-- .. and the class's found books, z of them -/
def fdR (z : Nat) (told p l m y : Nat → Int32) : Prop := ∀ j, j < z → p j = told (4 * j) ∧ l j = told (4 * j + 1) ∧ m j = told (4 * j + 2) ∧ y j = told (4 * j + 3)
def mn10 (e : Nat) : Nat := if e < 10 then e else 10
theorem mn10_le (e : Nat) : mn10 e ≤ 10 := by unfold mn10; split <;> omega
/-- all books of a text are read -/
def dnP (text : Nat → Int32) (c0 : Cfg) (e a : Nat) (told : Nat → Int32) (q : Int32) : Prop := ∃ (w : Nat) (pr mo ye sc : Int32) (p l m y : Nat → Int32), rns text c0 a (mkC (nI (e + 1)) q pr (nI w) mo ye sc (nI (mn10 e)) p l m y) ∧ fdR (mn10 e) told p l m y ∧ tdR (e + 1) told ∧ told (4 * e) = pr ∧ told (4 * e + 1) = nI w ∧ told (4 * e + 2) = mo ∧ told (4 * e + 3) = ye
theorem isText_e {x1 x2 x3 x4 : Int32} {pr0 le0 mo0 ye0 sc0 : Int32} (ht : t ≤ 60) (hc0 : c0 = mkC 0 0 pr0 le0 mo0 ye0 sc0 0 p l m y) :
    Ok (f_X5_isText (nI t) x1 x2 x3 x4 text told) (fun o => (o.1 = 1 ∧ o.2.1 = nI t ∧ ∃ e q, e < 21 ∧ o.2.2.2.2.1 = nI (e + 1) ∧ cmpQ q ∧ dnP text c0 e t o.2.2.2.2.2 q) ∨ (o.1 = 0 ∧ ∃ a', o.2.1 = nI a' ∧ flP text c0 t a' o.2.2.1)) := by
  unfold f_X5_isText
  refine ok_wl (fun i s => s.2.2.2.1 = nI i ∧ ∃ a, s.2.1 = nI a ∧ a ≤ t ∧ ((s.1 = 1 ∧ 3 * i ≤ a ∧ tdR i s.2.2.2.2.2 ∧ ∃ (pr le mo ye sc : Int32) (p l m y : Nat → Int32), rns text c0 a (mkC (nI i) 0 pr le mo ye sc (nI (mn10 i)) p l m y) ∧ fdR (mn10 i) s.2.2.2.2.2 p l m y) ∨ (s.1 = 0 ∧ ∃ e q, i = e + 1 ∧ cmpQ q ∧ dnP text c0 e a s.2.2.2.2.2 q ∧ (a < t → ∃ c c', rns text c0 a c ∧ stp (text a) c = some (0, c')))))
    (Sum.elim (fun o => ∃ a, o.1 = nI a ∧ flP text c0 t a o.2.1) (fun o => ∃ a e q, o.1 = nI a ∧ a ≤ t ∧ e < 21 ∧ o.2.2.1 = nI (e + 1) ∧ cmpQ q ∧ dnP text c0 e a o.2.2.2.2 q ∧ (a < t → ∃ c c', rns text c0 a c ∧ stp (text a) c = some (0, c')))) 21 (by omega)
    ⟨rfl, 0, rfl, by omega, Or.inl ⟨rfl, by omega, fun j hj => by omega, pr0, le0, mo0, ye0, sc0, p, l, m, y, hc0.symm, fun j hj => absurd hj (by unfold mn10; rw [if_pos (by decide)]; omega)⟩⟩ ?_ ?_ ?_
  · rintro i ⟨l1, w2, w3, w4, w5, w6⟩ hi ⟨e1, a, e2, ha, hc⟩
    dsimp only at e1 e2 hc
    subst e1 e2
    rcases hc with ⟨rfl, h3, htd, pr, le, mo, ye, sc, p, l, m, y, hr, hfd⟩ | ⟨rfl, e, q, rfl, hq, hdn, hrej⟩
    · refine ok_u6 (ok_f (by decide) (ok_bd _ (isPart_e ht ha (by omega) (mn10_le i) hr) ?_))
      rintro ⟨r17, o18, o19, o20, o21⟩ (⟨f1, f2, a', w, q', pr', mo', ye', sc', g1, g2, g3, g4, g5, g6, g7, g8, g9, g10, g11, g12, g13⟩ | ⟨f1, a', f2, g1⟩)
      · dsimp only at f1 f2 g3 g4 g5 g6 g7 g8
        subst f1 f2 g3
        have htd' : tdR (i + 1) o21 := fun j hj => by
          by_cases e : j = i
          · subst e
            rw [g6, g7, g8]
            exact ⟨⟨nI_pos' (by omega), nI_le (b := 4095) (by omega) (by omega)⟩, g10, g11⟩
          · rw [g4 _ (by omega), g4 _ (by omega), g4 _ (by omega)]
            exact htd j (by omega)
        have hfd' : fdR (mn10 i) o21 p l m y := fun j hj => by
          have : j < i := by unfold mn10 at hj; split at hj <;> omega
          rw [g4 _ (by omega), g4 _ (by omega), g4 _ (by omega), g4 _ (by omega)]
          exact hfd j hj
        rw [nI_1] at g12 g13
        refine ok_u5 (ok_f (by decide) ?_)
        by_cases qs : a' < t ∧ 59 ≤ text a' ∧ text a' ≤ 59
        · refine ok_c1 (isAt_e ht g2) qs (ok_jd (ok_f (by decide) (ok_u1 (ok_s ⟨nI_1 i, a' + 1, nI_1 a', by omega, Or.inl ⟨rfl, by omega, htd', ?_⟩⟩))))
          have hx := i_one qs.2
          have hst := g13.2.1 qs.1 hx
          unfold endC at hst
          by_cases hz : mn10 i < 10
          · rw [if_pos hz] at hst
            have hi10 : mn10 i = i := by
              unfold mn10 at hz ⊢
              by_cases c : i < 10
              · rw [if_pos c]
              · rw [if_neg c] at hz; omega
            have hmi : mn10 (i + 1) = mn10 i + 1 := by
              have : i < 10 := by omega
              unfold mn10
              by_cases c : i + 1 < 10
              · rw [if_pos c, if_pos this]
              · rw [if_neg c, if_pos this]; omega
            rw [hmi]
            refine ⟨_, _, _, _, _, _, _, _, _, ⟨_, g12, hst⟩, fun j hj => ?_⟩
            dsimp only
            by_cases e : j = mn10 i
            · subst e
              rw [pk_us, pk_us, pk_us, pk_us, hi10]
              exact ⟨g5.symm, g6.symm, g7.symm, g8.symm⟩
            · rw [pk_un e, pk_un e, pk_un e, pk_un e]
              exact hfd' j (by omega)
          · rw [if_neg hz] at hst
            have hmi : mn10 (i + 1) = mn10 i := by
              unfold mn10 at hz ⊢
              by_cases c : i < 10
              · rw [if_pos c] at hz; omega
              · rw [if_neg c, if_neg (by omega)]
            rw [hmi]
            exact ⟨_, _, _, _, _, _, _, _, _, ⟨_, g12, hst⟩, hfd'⟩
        · refine ok_c0 (isAt_e ht g2) qs (ok_jd (ok_t rfl (ok_u1 (ok_s ⟨nI_1 i, a', ?_, g2, Or.inr ⟨rfl, i, q', rfl, g13.1, ⟨w, pr', mo', ye', sc', p, l, m, y, g12, hfd', htd', g5, g6, g7, g8⟩, fun hlt => ?_⟩⟩))))
          · dsimp only
            rw [iN_0, nI_add]
            rfl
          · obtain ⟨c', hc'⟩ := g13.2.2 hlt (fun z => qs ⟨hlt, by rw [z]; decide⟩)
            exact ⟨_, c', g12, hc'⟩
      · dsimp only at f1 f2 g1
        subst f1 f2
        exact ok_u5 (ok_t rfl (ok_s ⟨a', rfl, g1⟩))
    · exact ok_u6 (ok_t rfl (ok_s ⟨a, e, q, rfl, ha, by omega, rfl, hq, hdn, hrej⟩))
  · rintro ⟨l1, w2, w3, w4, w5, w6⟩ ⟨e1, a, e2, ha, hc⟩
    dsimp only at e1 e2 hc
    subst e1 e2
    rcases hc with ⟨rfl, h3, -⟩ | ⟨rfl, e, q, he, hq, hdn, hrej⟩
    · omega
    · refine ok_u6 (ok_t rfl (ok_s ⟨a, e, q, rfl, ha, by omega, ?_, hq, hdn, hrej⟩))
      dsimp only
      rw [he]
  · rintro (⟨w7, w8, w9, w10, w11⟩ | ⟨w12, w13, w14, w15, w16⟩) hX
    · obtain ⟨a, e1, h1⟩ := hX
      exact ok_el (ok_u5 (ok_s (Or.inr ⟨rfl, a, e1, h1⟩)))
    · obtain ⟨a, e, q, e1, ha, he, e2, hq, hdn, hrej⟩ := hX
      dsimp only at e1 e2 hdn
      subst e1 e2
      refine ok_er (ok_u5 (ok_jd ?_))
      by_cases hlt : a < t
      · refine ok_nle hlt (by omega) (ok_u1 (ok_gB (Or.inr rfl) (ok_jd (ok_f (nI_ne (by omega) (by omega) (by omega)) (ok_u1 (ok_gB (Or.inl rfl) (ok_s (Or.inr ⟨rfl, a, rfl, Or.inl ⟨rfl, hlt, hrej hlt⟩⟩))))))))
      · have : a = t := by omega
        subst this
        exact ok_yle (Nat.le_refl _) (by omega) (ok_u1 (ok_gB (Or.inl rfl) (ok_jd (ok_t rfl (ok_u1 (ok_gB (Or.inr rfl) (ok_s (Or.inl ⟨rfl, rfl, e, q, he, rfl, hq, hdn⟩))))))))
theorem rns_tx {codes : Nat → Int32} (hct : ∀ i, i < t → codes i = text i) : ∀ (k : Nat) (c : Cfg), k ≤ t → rns text c0 k c → rns codes c0 k c
  | 0, _, _, h => h
  | k + 1, c, hk, ⟨b, h1, h2⟩ => ⟨b, rns_tx hct k b (by omega) h1, by rw [hct k (by omega)]; exact h2⟩
theorem rns_le : ∀ {k i : Nat} {c : Cfg}, rns text c0 k c → i < k → ∃ b b', rns text c0 i b ∧ stp (text i) b = some (1, b')
  | k + 1, i, c, ⟨b, h1, h2⟩, hi => by
    by_cases e : i = k
    · subst e; exact ⟨b, c, h1, h2⟩
    · exact rns_le h1 (by omega)
theorem rte_e {codes : Nat → Int32} {k : Nat} {c : Cfg} {x1 x2 pr0 le0 mo0 ye0 sc0 sz0 : Int32} (ht : t ≤ 60) (hct : ∀ i, i < t → codes i = text i) (hk : k ≤ t) (hc0 : c0 = mkC 0 0 pr0 le0 mo0 ye0 sc0 0 p l m y) (h : rns text c0 k c) (he : k < t → ∃ c', stp (text k) c = some (0, c')) :
    Ok (f_X3_readToError (nI t) x1 x2 pr0 le0 mo0 ye0 sc0 sz0 p l m y 60 codes) (fun o => o.1 = nI k ∧ (k = t → o.2 = c)) := by
  have hr := rns_tx hct k c hk h
  unfold f_X3_readToError f_X2_clear
  refine ok_be rfl (ok_u1 ?_)
  refine ok_wl (fun i s => i ≤ k ∧ s.1 = nI i ∧ rns codes c0 i (mkC s.2.2.2.1 s.2.2.2.2.2.1 s.2.2.2.2.1 s.2.1 s.2.2.1 s.2.2.2.2.2.2.1 s.2.2.2.2.2.2.2.1 s.2.2.2.2.2.2.2.2.1 s.2.2.2.2.2.2.2.2.2.1 s.2.2.2.2.2.2.2.2.2.2.1 s.2.2.2.2.2.2.2.2.2.2.2.1 s.2.2.2.2.2.2.2.2.2.2.2.2))
    (Sum.elim (fun o => o.1 = nI k ∧ k < t) (fun o => k = t ∧ rns codes c0 t (mkC o.2.2.1 o.2.2.2.2.1 o.2.2.2.1 o.1 o.2.1 o.2.2.2.2.2.1 o.2.2.2.2.2.2.1 o.2.2.2.2.2.2.2.1 o.2.2.2.2.2.2.2.2.1 o.2.2.2.2.2.2.2.2.2.1 o.2.2.2.2.2.2.2.2.2.2.1 o.2.2.2.2.2.2.2.2.2.2.2))) t (by omega) ⟨Nat.zero_le _, rfl, hc0.symm⟩ ?_ ?_ ?_
  · rintro i ⟨l3, w4, w5, w6, w7, w8, w9, w10, w11, w12, w13, w14, w15⟩ hi ⟨hik, e1, hri⟩
    dsimp only at e1 hri
    subst e1
    refine ok_nle hi (by omega) (ok_nle (a := 60) (by omega) (by omega) (ok_rd i rfl (by omega) (by decide) ?_))
    by_cases e : i = k
    · subst e
      have := rns_uni hr hri
      subst this
      obtain ⟨c', hc'⟩ := he hi
      have hst : f_X3_accepts (codes i) w6 w8 w7 w4 w5 w9 w10 w11 w12 w13 w14 w15 = some (0, c') := by
        rw [hct i hi]; exact hc'
      refine ok_be hst ?_
      obtain ⟨o43, o44, o45, o46, o47, o48, o49, o50, o51, o52, o53, o54⟩ := c'
      exact ok_u13 (ok_t rfl (ok_s ⟨rfl, hi⟩))
    · obtain ⟨b, b', h1, h2⟩ := rns_le hr (show i < k by omega)
      have := rns_uni h1 hri
      subst this
      have hst : f_X3_accepts (codes i) w6 w8 w7 w4 w5 w9 w10 w11 w12 w13 w14 w15 = some (1, b') := h2
      refine ok_be hst ?_
      obtain ⟨o43, o44, o45, o46, o47, o48, o49, o50, o51, o52, o53, o54⟩ := b'
      exact ok_u13 (ok_f (by decide) (ok_s ⟨by omega, nI_1 i, ⟨_, hri, h2⟩⟩))
  · rintro ⟨l3, w4, w5, w6, w7, w8, w9, w10, w11, w12, w13, w14, w15⟩ ⟨hik, e1, hri⟩
    dsimp only at e1 hri
    subst e1
    exact ok_yle (Nat.le_refl _) (by omega) (ok_s ⟨by omega, hri⟩)
  · rintro (⟨l3, w17, w18, w19, w20, w21, w22, w23, w24, w25, w26, w27, w28⟩ | ⟨w29, w30, w31, w32, w33, w34, w35, w36, w37, w38, w39, w40⟩) hX
    · obtain ⟨e1, h1⟩ := hX
      dsimp only at e1
      subst e1
      exact ok_el (ok_u13 (ok_s ⟨rfl, fun z => by omega⟩))
    · obtain ⟨e1, h1⟩ := hX
      subst e1
      have := rns_uni hr h1
      refine ok_er (ok_u12 (ok_s ⟨rfl, fun _ => ?_⟩))
      rw [this]
      rfl
end Text3
section Face4
variable {sN old hs kept c any rs th : Int32} {P L M Y hN now past bef beh fy ly aB aH tab : Nat → Int32} {hP hL hM hY : Nat → Nat → Int32} {out : Nat → Int64} {len typed : Int32} {codes text told : Nat → Int32}
variable {x1 x2 x3 x4 y1 y2 pr0 le0 mo0 ye0 sc0 sz0 : Int32} {p l m y : Nat → Int32}
theorem t_firstError (ht : txR len typed codes text) :
    Ok (f_X4_firstError len y1 y2 pr0 le0 mo0 ye0 sc0 sz0 p l m y codes) (fun o => Ok (f_X5_firstError typed th x1 x2 x3 x4 text told) (fun o' => o.1 = o'.1)) := by
  obtain ⟨t, ht1, rfl, rfl, ht2⟩ := ht
  have hM := isText_e (text := text) (told := told) (c0 := mkC 0 0 pr0 le0 mo0 ye0 sc0 0 p l m y) (x1 := x1) (x2 := x2) (x3 := x3) (x4 := x4) ht1 rfl
  obtain ⟨⟨r1, o2, o3, o4, o5, o6⟩, hm1, hm2⟩ := hM
  have hfin : ∀ v, (r1 = 1 → v = nI t) → (r1 = 0 → o3 = 0 → v = nI t) → (r1 = 0 → o3 = 1 → v = o2) → (r1 = 1 ∨ r1 = 0) → (o3 = 0 ∨ o3 = 1 ∨ r1 = 1) → Ok (f_X5_firstError (nI t) th x1 x2 x3 x4 text told) (fun o' => v = o'.1) := fun v h1 h2 h3 h4 h5 => by
    unfold f_X5_firstError
    refine ok_be hm1 (ok_u6 (ok_jd (ok_jd ?_)))
    by_cases q : r1 = 0
    · refine ok_t q ?_
      rcases h5 with h5 | h5 | h5
      · exact ok_t h5 (ok_u0 (ok_u1 (ok_s (h2 q h5))))
      · exact ok_f (by rw [h5]; decide) (ok_u1 (ok_s (h3 q h5)))
      · rw [h5] at q; cases q
    · refine ok_f q (ok_u0 (ok_u1 (ok_s (h1 ?_))))
      rcases h4 with h4 | h4
      · exact h4
      · exact absurd h4 q
  unfold f_X4_firstError
  rcases hm2 with ⟨e1, e2, e, q, -, -, hq, w, pr, mo, ye, sc, p', l', m', y', hr, -⟩ | ⟨e1, a', e2, hfl⟩
  · dsimp only at e1 e2
    refine ok_bd _ (rte_e ht1 ht2 (Nat.le_refl t) rfl hr (fun z => by omega)) ?_
    rintro ⟨r, o2', o3', o4', o5', o6', o7', o8', o9', o10', o11', o12', o13'⟩ ⟨g1, -⟩
    exact ok_u13 (ok_s (hfin _ (fun _ => g1) (fun z => by rw [e1] at z; cases z) (fun z => by rw [e1] at z; cases z) (Or.inl e1) (Or.inr (Or.inr e1))))
  · dsimp only at e1 e2 hfl
    rcases hfl with ⟨f1, f2, cc, c', hr, hst⟩ | ⟨f1, f2, cc, hr, -⟩
    · refine ok_bd _ (rte_e ht1 ht2 (by omega) rfl hr (fun _ => ⟨c', hst⟩)) ?_
      rintro ⟨r, o2', o3', o4', o5', o6', o7', o8', o9', o10', o11', o12', o13'⟩ ⟨g1, -⟩
      refine ok_u13 (ok_s (hfin _ (fun z => by rw [e1] at z; cases z) (fun _ z => by rw [f1] at z; cases z) (fun _ _ => ?_) (Or.inr e1) (Or.inr (Or.inl f1))))
      rw [e2]; exact g1
    · subst f2
      refine ok_bd _ (rte_e ht1 ht2 (Nat.le_refl _) rfl hr (fun z => by omega)) ?_
      rintro ⟨r, o2', o3', o4', o5', o6', o7', o8', o9', o10', o11', o12', o13'⟩ ⟨g1, -⟩
      exact ok_u13 (ok_s (hfin _ (fun _ => g1) (fun _ _ => g1) (fun _ z => by rw [f1] at z; cases z) (Or.inr e1) (Or.inl f1)))
theorem isCmp_e (q : Int32) : f_X3_isComplete q = some (if cmpQ q then 1 else 0) := by
  refine rg_f ?_
  unfold f_X3_isComplete cmpQ
  dsimp only [jn, u0, u1]
  refine ok_if (fun a => ok_gB (Or.inr rfl) (ok_s (Or.inl ⟨Or.inl a, rfl⟩))) (fun a => ok_if (fun b => ok_gB (Or.inr rfl) (ok_s (Or.inl ⟨Or.inr (Or.inl b), rfl⟩))) (fun b => ok_if (fun d => ok_gB (Or.inr rfl) (ok_s (Or.inl ⟨Or.inr (Or.inr (Or.inl d)), rfl⟩))) (fun d => ok_if (fun e => ok_gB (Or.inr rfl) (ok_s (Or.inl ⟨Or.inr (Or.inr (Or.inr (Or.inl e))), rfl⟩))) (fun e => ok_if (fun f => ok_gB (Or.inr rfl) (ok_s (Or.inl ⟨Or.inr (Or.inr (Or.inr (Or.inr f))), rfl⟩))) (fun f => ok_gB (Or.inl rfl) (ok_s (Or.inr ⟨fun z => ?_, rfl⟩)))))))
  rcases z with z | z | z | z | z
  · exact a z
  · exact b z
  · exact d z
  · exact e z
  · exact f z
def exT (n : Nat) (P : Nat → Int32) (told : Nat → Int32) (o b : Nat) : Int32 := if b < n then P b else told (4 * (b - n) + o)
theorem exT_s {n i o : Nat} {P : Nat → Int32} {v : Int32} (hv : v = told (4 * i + o)) : ∀ b, upd (exT n P told o) (n + i) v b = exT n P told o b := fun b => by
  by_cases e : b = n + i
  · subst e
    rw [pk_us, hv, exT, if_neg (by omega), Nat.add_sub_cancel_left]
  · rw [pk_un e]
theorem rw_cg {s P L M Y P' L' M' Y' : Nat → Int32} {n : Nat} (h : rw4 s n P L M Y) (hs : sh4 n P L M Y P' L' M' Y') : rw4 s n P' L' M' Y' := ⟨h.1, fun b hb => by
  obtain ⟨a0, a1, a2, a3⟩ := hs b hb
  rw [a0, a1, a2, a3]
  exact h.2 b hb⟩
theorem t_books (h : stR sN old hs kept P L M Y hN hP hL hM hY now past c any rs bef beh fy ly aB aH tab) (ht : txR len typed codes text) :
    Ok (f_L_books len old sN P L M Y hs hN hP hL hM hY y1 y2 pr0 le0 mo0 ye0 sc0 sz0 p l m y codes out) (fun o => Ok (f_X5_books kept typed th x1 x2 x3 x4 now past text told) (fun o' => anR o.1 o.2.2.2.2.2.2.2.2.2.2.2.2.2.2.2.2.2.2.2.2.2.2.2.2.2.2 o'.1 o'.2.2.2.1 ∧ txR o.2.1 o'.2.2.1 codes text ∧
      stR o.2.2.2.1 o.2.2.1 o.2.2.2.2.2.2.2.2.1 o'.2.1 o.2.2.2.2.1 o.2.2.2.2.2.1 o.2.2.2.2.2.2.1 o.2.2.2.2.2.2.2.1 o.2.2.2.2.2.2.2.2.2.1 o.2.2.2.2.2.2.2.2.2.2.1 o.2.2.2.2.2.2.2.2.2.2.2.1 o.2.2.2.2.2.2.2.2.2.2.2.2.1 o.2.2.2.2.2.2.2.2.2.2.2.2.2.1 o'.2.2.2.2.2.2.2.2.1 o'.2.2.2.2.2.2.2.2.2.1 c any rs bef beh fy ly aB aH tab)) := by
  obtain ⟨n, g, rfl, rfl, rfl, h1, h2, h3⟩ := h
  have hst : stR (nI n) old (nI g) (nI g) P L M Y hN hP hL hM hY now past c any rs bef beh fy ly aB aH tab := ⟨n, g, rfl, rfl, rfl, h1, h2, h3⟩
  have hn := h1.1
  have hw := h1.2.2.2
  have htx := ht
  obtain ⟨t, ht1, rfl, rfl, ht2⟩ := ht
  have hMT := isText_e (text := text) (told := told) (c0 := mkC 0 0 pr0 le0 mo0 ye0 sc0 0 p l m y) (x1 := x1) (x2 := x2) (x3 := x3) (x4 := x4) ht1 rfl
  obtain ⟨⟨r1, o2, o3, o4, o5, o6⟩, hm1, hm2⟩ := hMT
  unfold f_L_books f_X4_books
  have hbad : r1 = 0 → Ok (f_X5_books (nI g) (nI t) th x1 x2 x3 x4 now past text told) (fun o' => anR 1 out o'.1 o'.2.2.2.1 ∧ txR (nI t) o'.2.2.1 codes text ∧ stR (nI n) old (nI g) o'.2.1 P L M Y hN hP hL hM hY o'.2.2.2.2.2.2.2.2.1 o'.2.2.2.2.2.2.2.2.2.1 c any rs bef beh fy ly aB aH tab) := fun e => by
    subst e
    unfold f_X5_books
    exact ok_be hm1 (ok_u6 (ok_t rfl (ok_fails (ok_s ⟨an_k n10, htx, hst⟩))))
  rcases hm2 with ⟨e1, e2, e, q, he21, e5, hq, w, pr, mo, ye, sc, p', l', m', y', hr, hfd, htd, g5, g6, g7, g8⟩ | ⟨e1, a', e2, hfl⟩
  · dsimp only at e1 e2 e5 hfd htd g5 g6 g7 g8
    subst e1 e2 e5
    have hrte := rte_e (codes := codes) (x1 := y1) (x2 := y2) (sz0 := sz0) ht1 ht2 (Nat.le_refl t) rfl hr (fun z => by omega)
    obtain ⟨⟨r, cc⟩, hr1, hr2, hr3⟩ := hrte
    dsimp only at hr2 hr3
    have hr3 := hr3 rfl
    subst hr2 hr3
    by_cases hle : n + (e + 1) ≤ 10
    · have he10 : mn10 e = e := by unfold mn10; rw [if_pos (by omega)]
      rw [he10] at hr1 hfd
      refine ok_bd (fun o => ∃ (P' L' M' Y' : Nat → Int32) (q8 : Int32) (q9 : Nat → Int32) (q10 q11 q12 q13 : Nat → Nat → Int32) (z1 z2 z3 z4 z5 z6 z7 z8 : Int32) (v1 v2 v3 v4 : Nat → Int32), o = (Sum.inl (nI (n + (e + 1))), 0, 1, nI (n + (e + 1)), P', L', M', Y', q8, q9, q10, q11, q12, q13, z1, z2, z3, z4, z5, z6, z7, z8, v1, v2, v3, v4) ∧ sh4 (n + (e + 1)) (exT n P o6 0) (exT n L o6 1) (exT n M o6 2) (exT n Y o6 3) P' L' M' Y' ∧ Ok (f_X5_saves (nI g) now past) (fun o' => ∃ h', q8 = nI h' ∧ o'.1 = nI h' ∧ hiR h' q9 q10 q11 q12 q13 o'.2)) (ok_be hr1 ?_) ?_
      · refine ok_u13 (ok_jd (ok_f (nI_nlt (Nat.le_refl _) (by omega)) (ok_c1 (isCmp_e q) hq (ok_f (by decide) ?_))))
        rw [nI_add]
        refine ok_t (nI_le (b := 10) hle (by omega)) (ok_bd _ (save2_e h1 h2) ?_)
        rintro ⟨o17, o18, o19, o20, o21, o22, o23⟩ ⟨f1, hsv⟩
        dsimp only at f1
        subst f1
        unfold f_X3_endPart
        refine ok_u7 (ok_bd (fun o => o = (nI (e + 1), upd p' e pr, upd l' e (nI w), upd m' e mo, upd y' e ye)) (ok_be (add_e (by omega)) (ok_u5 (ok_s rfl))) ?_)
        rintro _ rfl
        refine ok_u5 (ok_bd _ (addAll_e hle) ?_)
        rintro ⟨o32, o33, o34, o35, o36⟩ ⟨f1, f2, f3⟩
        dsimp only at f1
        subst f1
        refine ok_u5 (ok_s ⟨o33, o34, o35, o36, o18, o19, o20, o21, o22, o23, _, _, _, _, _, _, _, _, _, _, _, _, rfl, fun b hb => ?_, hsv⟩)
        unfold exT
        by_cases qb : b < n
        · rw [if_pos qb, if_pos qb, if_pos qb, if_pos qb]
          exact f2 b qb
        · obtain ⟨k, rfl⟩ : ∃ k, b = n + k := ⟨b - n, by omega⟩
          rw [if_neg qb, if_neg qb, if_neg qb, if_neg qb, Nat.add_sub_cancel_left]
          obtain ⟨b1, b2, b3, b4⟩ := f3 k (by omega)
          dsimp only at b1 b2 b3 b4
          rw [b1, b2, b3, b4]
          by_cases ke : k = e
          · subst ke
            rw [pk_us, pk_us, pk_us, pk_us]
            exact ⟨g5.symm, g6.symm, g7.symm, g8.symm⟩
          · rw [pk_un ke, pk_un ke, pk_un ke, pk_un ke]
            exact hfd k (by omega)
      · rintro _ ⟨P', L', M', Y', q8, q9, q10, q11, q12, q13, z1, z2, z3, z4, z5, z6, z7, z8, v1, v2, v3, v4, rfl, hsh, hsv⟩
        refine ok_u26 (ok_wrL (ok_s ?_))
        unfold f_X5_books
        refine ok_be hm1 (ok_u6 (ok_f (by decide) (rd40 hw ?_)))
        rw [nI_add]
        refine ok_t (nI_le (b := 10) hle (by omega)) (ok_bd _ hsv ?_)
        rintro ⟨k', past'⟩ ⟨h', f1, f2, h5⟩
        refine ok_u2 ?_
        refine ok_wl (fun i s => s.1 = nI i ∧ rw4 s.2 (n + i) (exT n P o6 0) (exT n L o6 1) (exT n M o6 2) (exT n Y o6 3)) (fun w => rw4 w (n + (e + 1)) (exT n P o6 0) (exT n L o6 1) (exT n M o6 2) (exT n Y o6 3)) (e + 1) (by omega) ⟨rfl, hw.1, fun b hb => ?_⟩ ?_ ?_ ?_
        · have hb : b < n := hb
          unfold exT
          rw [if_pos hb, if_pos hb, if_pos hb, if_pos hb]
          exact hw.2 b hb
        · rintro i ⟨l1, ww⟩ hi ⟨k1, k2⟩
          dsimp only at k1 k2
          subst k1
          refine ok_nle hi (by omega) (ok_rd (4 * i) (nI_4 i) (by omega) (by decide) (ok_rd (4 * i + 1) (nI_41 i) (by omega) (by decide) (ok_rd (4 * i + 2) (nI_42 i) (by omega) (by decide) (ok_rd (4 * i + 3) (nI_43 i) (by omega) (by decide) (ok_bd _ (comes_e (by omega) k2) ?_)))))
          rintro ⟨r18, o19⟩ ⟨-, k3⟩
          refine ok_u2 (ok_s ⟨nI_1 i, ?_⟩)
          exact rw_cg k3 (fun b _ => ⟨(exT_s rfl b).symm, (exT_s rfl b).symm, (exT_s rfl b).symm, (exT_s rfl b).symm⟩)
        · rintro ⟨l1, ww⟩ ⟨k1, k2⟩
          dsimp only at k1 k2
          subst k1
          exact ok_yle (Nat.le_refl _) (by omega) (ok_s k2)
        · intro ww k2
          refine ok_u1 (rd40 k2 (ok_s ⟨an_0 rfl, ⟨0, by omega, rfl, rfl, fun i hi => by omega⟩, n + (e + 1), h', rfl, f1, f2, ?_, h5, rsG_1⟩))
          refine shR_cg ⟨hle, fun b hb => ?_, fun b hb => ?_, k2⟩ hsh (fun _ _ => rfl)
          · unfold exT
            by_cases qb : b < n
            · rw [if_pos qb, if_pos qb]
              exact h1.2.1 b qb
            · rw [if_neg qb, if_neg qb]
              have := htd (b - n) (by omega)
              exact ⟨this.2.1, this.2.2⟩
          · unfold exT
            by_cases qb : b < n
            · rw [if_pos qb]
              exact h1.2.2.1 b qb
            · rw [if_neg qb]
              exact (htd (b - n) (by omega)).1
    · refine ok_bd (fun o => o.1 = Sum.inr "java/lang/IllegalStateException" ∧ (o.2.1, o.2.2.1, o.2.2.2.1, o.2.2.2.2.1, o.2.2.2.2.2.1, o.2.2.2.2.2.2.1) = (nI t, old, nI n, P, L, M) ∧ (o.2.2.2.2.2.2.2.1, o.2.2.2.2.2.2.2.2.1, o.2.2.2.2.2.2.2.2.2.1, o.2.2.2.2.2.2.2.2.2.2.1, o.2.2.2.2.2.2.2.2.2.2.2.1, o.2.2.2.2.2.2.2.2.2.2.2.2.1, o.2.2.2.2.2.2.2.2.2.2.2.2.2.1) = (Y, nI g, hN, hP, hL, hM, hY)) (ok_be hr1 ?_) ?_
      · refine ok_u13 (ok_jd (ok_f (nI_nlt (Nat.le_refl _) (by omega)) (ok_c1 (isCmp_e q) hq (ok_f (by decide) ?_))))
        rw [nI_add]
        exact ok_f (nI_ge (b := n + (e + 1)) (a := 10) (by omega) (by omega)) (ok_s ⟨rfl, rfl, rfl⟩)
      · rintro ⟨r0, b1, b2, b3, b4, b5, b6, b7, b8, b9, b10, b11, b12, b13, b14, b15, b16, b17, b18, b19, b20, b21, b22, b23, b24, b25⟩ ⟨f1, f2, f3⟩
        dsimp only at f1 f2 f3
        simp only [Prod.mk.injEq] at f2 f3
        obtain ⟨rfl, rfl, rfl, rfl, rfl, rfl⟩ := f2
        obtain ⟨rfl, rfl, rfl, rfl, rfl, rfl, rfl⟩ := f3
        subst f1
        refine ok_u26 (ok_f (by decide) (ok_t rfl (ok_s ?_)))
        unfold f_X5_books
        refine ok_be hm1 (ok_u6 (ok_f (by decide) (rd40 hw ?_)))
        rw [nI_add]
        exact ok_f (nI_ge (b := n + (e + 1)) (a := 10) (by omega) (by omega)) (ok_fails (ok_s ⟨an_k n20, htx, hst⟩))
  · dsimp only at e1 e2 hfl
    refine ok_bd (fun o => o.1 = Sum.inr "java/lang/IllegalArgumentException" ∧ (o.2.1, o.2.2.1, o.2.2.2.1, o.2.2.2.2.1, o.2.2.2.2.2.1, o.2.2.2.2.2.2.1) = (nI t, old, nI n, P, L, M) ∧ (o.2.2.2.2.2.2.2.1, o.2.2.2.2.2.2.2.2.1, o.2.2.2.2.2.2.2.2.2.1, o.2.2.2.2.2.2.2.2.2.2.1, o.2.2.2.2.2.2.2.2.2.2.2.1, o.2.2.2.2.2.2.2.2.2.2.2.2.1, o.2.2.2.2.2.2.2.2.2.2.2.2.2.1) = (Y, nI g, hN, hP, hL, hM, hY)) ?_ ?_
    · rcases hfl with ⟨f1, f2, cc, c', hr, hst'⟩ | ⟨f1, f2, cc, hr, hnc⟩
      · refine ok_bd _ (rte_e ht1 ht2 (by omega) rfl hr (fun _ => ⟨c', hst'⟩)) ?_
        rintro ⟨r, o2', o3', o4', o5', o6', o7', o8', o9', o10', o11', o12', o13'⟩ ⟨g1, -⟩
        dsimp only at g1
        subst g1
        exact ok_u13 (ok_jd (ok_t (nI_lt f2 (by omega)) (ok_u0 (ok_s ⟨rfl, rfl, rfl⟩))))
      · subst f2
        refine ok_bd _ (rte_e ht1 ht2 (Nat.le_refl _) rfl hr (fun z => by omega)) ?_
        rintro ⟨r, o2', o3', o4', o5', o6', o7', o8', o9', o10', o11', o12', o13'⟩ ⟨g1, g2⟩
        dsimp only at g1 g2
        subst g1
        have g2 := g2 rfl
        subst g2
        exact ok_u13 (ok_jd (ok_f (nI_nlt (Nat.le_refl _) (by omega)) (ok_c0 (isCmp_e o3') hnc (ok_t rfl (ok_u0 (ok_s ⟨rfl, rfl, rfl⟩))))))
    · rintro ⟨r0, b1, b2, b3, b4, b5, b6, b7, b8, b9, b10, b11, b12, b13, b14, b15, b16, b17, b18, b19, b20, b21, b22, b23, b24, b25⟩ ⟨f1, f2, f3⟩
      dsimp only at f1 f2 f3
      simp only [Prod.mk.injEq] at f2 f3
      obtain ⟨rfl, rfl, rfl, rfl, rfl, rfl⟩ := f2
      obtain ⟨rfl, rfl, rfl, rfl, rfl, rfl, rfl⟩ := f3
      subst f1
      exact ok_u26 (ok_t rfl (ok_s (hbad e1)))
end Face4
