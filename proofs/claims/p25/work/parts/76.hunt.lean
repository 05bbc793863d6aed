/-! the law's look at the books: it finds what it wants -/
theorem nAl_0 {E : Nat → Nat → Bool} {n : Nat} {P Y : Nat → Int32} {hs : Int32} : nAl E n P Y hs 0 = nI n := if_pos rfl
theorem nAl_1 {E : Nat → Nat → Bool} {n : Nat} {P Y : Nat → Int32} {hs : Int32} : nAl E n P Y hs 1 = nI (dtdV E n Y) := by unfold nAl; rw [if_neg (by decide), if_pos rfl]
theorem nAl_2 {E : Nat → Nat → Bool} {n : Nat} {P Y : Nat → Int32} {hs : Int32} : nAl E n P Y hs 2 = nI (havY n Y) := by unfold nAl; rw [if_neg (by decide), if_neg (by decide), if_pos rfl]
theorem nAl_3 {E : Nat → Nat → Bool} {n : Nat} {P Y : Nat → Int32} {hs : Int32} : nAl E n P Y hs 3 = nI (conP E n) := by unfold nAl; rw [if_neg (by decide), if_neg (by decide), if_neg (by decide), if_pos rfl]
theorem nAl_4 {E : Nat → Nat → Bool} {n : Nat} {P Y : Nat → Int32} {hs : Int32} : nAl E n P Y hs 4 = nI (fitN E n) := by unfold nAl; rw [if_neg (by decide), if_neg (by decide), if_neg (by decide), if_neg (by decide), if_pos rfl]
theorem nAl_6 {E : Nat → Nat → Bool} {n : Nat} {P Y : Nat → Int32} {hs : Int32} : nAl E n P Y hs 6 = hs := by unfold nAl; rw [if_neg (by decide), if_neg (by decide), if_neg (by decide), if_neg (by decide), if_neg (by decide), if_neg (by decide), if_pos rfl]
theorem nAl_p {E : Nat → Nat → Bool} {n : Nat} {P Y : Nat → Int32} {hs w : Int32} (h : w = 7 ∨ w = 8 ∨ w = 9) : nAl E n P Y hs w = nI (havP n P (w - 7)) := by
  unfold nAl
  rcases h with q | q | q <;> rw [q, if_neg (by decide), if_neg (by decide), if_neg (by decide), if_neg (by decide), if_neg (by decide), if_neg (by decide), if_neg (by decide)]
section NB
variable {E : Nat → Nat → Bool} {n b : Nat} {P L M Y : Nat → Int32}
theorem nBk_0 : nBk E n P L M Y b 0 = P b := if_pos rfl
theorem nBk_1 : nBk E n P L M Y b 1 = L b := by unfold nBk; rw [if_neg (by decide), if_pos rfl]
theorem nBk_3 : nBk E n P L M Y b 3 = Y b := by unfold nBk; rw [if_neg (by decide), if_neg (by decide), if_neg (by decide), if_pos rfl]
theorem nBk_4 : nBk E n P L M Y b 4 = nI (cd 12 (L b).toNatClampNeg) := by unfold nBk; rw [if_neg (by decide), if_neg (by decide), if_neg (by decide), if_neg (by decide), if_pos rfl]
theorem nBk_5 : nBk E n P L M Y b 5 = fyV E n Y b := by unfold nBk; rw [if_neg (by decide), if_neg (by decide), if_neg (by decide), if_neg (by decide), if_neg (by decide), if_pos rfl]
theorem nBk_6 : nBk E n P L M Y b 6 = lyV E n Y b := by unfold nBk; rw [if_neg (by decide), if_neg (by decide), if_neg (by decide), if_neg (by decide), if_neg (by decide), if_neg (by decide), if_pos rfl]
theorem nBk_7 : nBk E n P L M Y b 7 = (if fyV E n Y b = lyV E n Y b then 1 else 0) := by unfold nBk; rw [if_neg (by decide), if_neg (by decide), if_neg (by decide), if_neg (by decide), if_neg (by decide), if_neg (by decide), if_neg (by decide), if_pos rfl]
theorem nBk_8 : nBk E n P L M Y b 8 = nI (cd n (bfM E n b)) := by unfold nBk; rw [if_neg (by decide), if_neg (by decide), if_neg (by decide), if_neg (by decide), if_neg (by decide), if_neg (by decide), if_neg (by decide), if_neg (by decide), if_pos rfl]
theorem nBk_9 : nBk E n P L M Y b 9 = nI (cd n (bfM (tr E) n b)) := by unfold nBk; rw [if_neg (by decide), if_neg (by decide), if_neg (by decide), if_neg (by decide), if_neg (by decide), if_neg (by decide), if_neg (by decide), if_neg (by decide), if_neg (by decide), if_pos rfl]
theorem nBk_10 : nBk E n P L M Y b 10 = nI (cd n (bfM E n b &&& bfM (tr E) n b)) := by unfold nBk; rw [if_neg (by decide), if_neg (by decide), if_neg (by decide), if_neg (by decide), if_neg (by decide), if_neg (by decide), if_neg (by decide), if_neg (by decide), if_neg (by decide), if_neg (by decide)]
end NB
theorem ad_if {a : Nat} {c : Prop} [Decidable c] : nI a + (if c then (1 : Int32) else 0) = nI (a + if c then 1 else 0) := by
  split
  · exact nI_add a 1
  · exact nI_add a 0
theorem ad_if0 {a : Nat} {c : Prop} [Decidable c] : nI a + (if c then (0 : Int32) else 1) = nI (a + if c then 0 else 1) := by
  split
  · exact nI_add a 0
  · exact nI_add a 1
theorem le_lit {a b : Nat} (h : a ≤ b) (hb : b < 2 ^ 31) : ¬ nI b < nI a := Int32.not_lt.mpr ((nI_leI (by omega) hb).mpr h)
def conR (E : Nat → Nat → Bool) (i : Nat) : Nat := sm (fun b => sm (fun a => if (E a b && E b a) = true then 1 else 0) b) i
def conQ (E : Nat → Nat → Bool) (i j : Nat) : Nat := conR E i + sm (fun a => if (E a i && E i a) = true then 1 else 0) j
theorem sm_s (f : Nat → Nat) (n : Nat) : sm f (n + 1) = sm f n + f n := rfl
section Hunt
variable {n : Nat} {P L M Y : Nat → Int32}
theorem inner_e {i : Nat} {old c any sz : Int32} {bef beh fy ly aB aH tab : Nat → Int32} {τ : Type} {R : τ → Prop} (C : shC n P L M Y) (hi : i < n) (h : rsG (eB P L M Y) n Y old c any sz bef beh fy ly aB aH tab) {K : Int32 → Int32 → Int32 → Int32 → Int32 → Int32 → (Nat → Int32) → (Nat → Int32) → (Nat → Int32) → (Nat → Int32) → (Nat → Int32) → (Nat → Int32) → Option τ}
    (hK : ∀ o1 o2 o3 o4 o5 o6 o7 o8 o9 o10, rsG (eB P L M Y) n Y o1 o2 o3 o4 o5 o6 o7 o8 o9 o10 tab → Ok (K (nI (conR (eB P L M Y) (i + 1))) 1 o1 o2 o3 o4 o5 o6 o7 o8 o9 o10) R) :
    Ok ((wl (u13 fun (l4_102 : Int32) (l5_103 : Int32) (l8_104 : Int32) (w105 : Int32) (w106 : Int32) (w107 : Int32) (w108 : Int32) (w109 : Nat → Int32) (w110 : Nat → Int32) (w111 : Nat → Int32) (w112 : Nat → Int32) (w113 : Nat → Int32) (w114 : Nat → Int32) => (if (nI i) ≤ l8_104 then some (Sum.inr (l4_102, l5_103, w105, w106, w107, w108, w109, w110, w111, w112, w113, w114)) else (if l5_103 = 0 then some (Sum.inr (l4_102, l5_103, w105, w106, w107, w108, w109, w110, w111, w112, w113, w114)) else (f_X4_bookOf l8_104 0 w105 (nI n) P L M Y w106 w107 w108 w109 w110 w111 w112 w113 w114).bind (u11 fun (r127 : Int32) (o128 : Int32) (o129 : Int32) (o130 : Int32) (o131 : Int32) (o132 : Nat → Int32) (o133 : Nat → Int32) (o134 : Nat → Int32) (o135 : Nat → Int32) (o136 : Nat → Int32) (o137 : Nat → Int32) => (f_X4_bookOf (nI i) 0 o128 (nI n) P L M Y o129 o130 o131 o132 o133 o134 o135 o136 o137).bind (u11 fun (r138 : Int32) (o139 : Int32) (o140 : Int32) (o141 : Int32) (o142 : Int32) (o143 : Nat → Int32) (o144 : Nat → Int32) (o145 : Nat → Int32) (o146 : Nat → Int32) (o147 : Nat → Int32) (o148 : Nat → Int32) => (jn (u1 fun (s149 : Int32) => (f_X4_ahead l8_104 (nI i) (nI n) P L M Y).bind (u1 fun (r151 : Int32) => (jn (u1 fun (s152 : Int32) => gZ 2 ((jn (u1 fun (s154 : Int32) => (jn (u11 fun (w156 : Int32) (w157 : Int32) (w158 : Int32) (w159 : Int32) (w160 : Nat → Int32) (w161 : Nat → Int32) (w162 : Nat → Int32) (w163 : Nat → Int32) (w164 : Nat → Int32) (w165 : Nat → Int32) (s166 : Int32) => (jn (u11 fun (w168 : Int32) (w169 : Int32) (w170 : Int32) (w171 : Int32) (w172 : Nat → Int32) (w173 : Nat → Int32) (w174 : Nat → Int32) (w175 : Nat → Int32) (w176 : Nat → Int32) (w177 : Nat → Int32) (s178 : Int32) => some (Sum.inl ((l4_102 + s152), s178, (l8_104 + 1), w168, w169, w170, w171, w172, w173, w174, w175, w176, w177))) (fun K179 => jn (u10 fun (w180 : Int32) (w181 : Int32) (w182 : Int32) (w183 : Int32) (w184 : Nat → Int32) (w185 : Nat → Int32) (w186 : Nat → Int32) (w187 : Nat → Int32) (w188 : Nat → Int32) (w189 : Nat → Int32) => K179 (w180, w181, w182, w183, w184, w185, w186, w187, w188, w189, 0)) (fun K190 => (if s154 = s166 then (jn (u1 fun (s191 : Int32) => (f_X4_bookOf l8_104 3 w156 (nI n) P L M Y w157 w158 w159 w160 w161 w162 w163 w164 w165).bind (u11 fun (r193 : Int32) (o194 : Int32) (o195 : Int32) (o196 : Int32) (o197 : Int32) (o198 : Nat → Int32) (o199 : Nat → Int32) (o200 : Nat → Int32) (o201 : Nat → Int32) (o202 : Nat → Int32) (o203 : Nat → Int32) => (jn (u11 fun (w204 : Int32) (w205 : Int32) (w206 : Int32) (w207 : Int32) (w208 : Nat → Int32) (w209 : Nat → Int32) (w210 : Nat → Int32) (w211 : Nat → Int32) (w212 : Nat → Int32) (w213 : Nat → Int32) (s214 : Int32) => (if s191 = s214 then K179 (w204, w205, w206, w207, w208, w209, w210, w211, w212, w213, 1) else K190 (w204, w205, w206, w207, w208, w209, w210, w211, w212, w213))) (fun K215 => jn (u10 fun (w216 : Int32) (w217 : Int32) (w218 : Int32) (w219 : Int32) (w220 : Nat → Int32) (w221 : Nat → Int32) (w222 : Nat → Int32) (w223 : Nat → Int32) (w224 : Nat → Int32) (w225 : Nat → Int32) => K215 (w216, w217, w218, w219, w220, w221, w222, w223, w224, w225, 1)) (fun K226 => (if r193 = (-1) then K226 (o194, o195, o196, o197, o198, o199, o200, o201, o202, o203) else (if (Y i) = (-1) then K226 (o194, o195, o196, o197, o198, o199, o200, o201, o202, o203) else (f_X4_bookOf l8_104 3 o194 (nI n) P L M Y o195 o196 o197 o198 o199 o200 o201 o202 o203).bind (u11 fun (r227 : Int32) (o228 : Int32) (o229 : Int32) (o230 : Int32) (o231 : Int32) (o232 : Nat → Int32) (o233 : Nat → Int32) (o234 : Nat → Int32) (o235 : Nat → Int32) (o236 : Nat → Int32) (o237 : Nat → Int32) => (if r227 < (Y i) then K215 (o228, o229, o230, o231, o232, o233, o234, o235, o236, o237, 0) else K226 (o228, o229, o230, o231, o232, o233, o234, o235, o236, o237)))))))))) (fun K192 => (if 4 ≤ r151 then K192 0 else K192 1))) else K190 (w156, w157, w158, w159, w160, w161, w162, w163, w164, w165)))))) (fun K167 => jn (u10 fun (w238 : Int32) (w239 : Int32) (w240 : Int32) (w241 : Int32) (w242 : Nat → Int32) (w243 : Nat → Int32) (w244 : Nat → Int32) (w245 : Nat → Int32) (w246 : Nat → Int32) (w247 : Nat → Int32) => K167 (w238, w239, w240, w241, w242, w243, w244, w245, w246, w247, 0)) (fun K248 => (if s149 = 0 then K248 (o139, o140, o141, o142, o143, o144, o145, o146, o147, o148) else (f_X4_bookOf (nI i) 1 o139 (nI n) P L M Y o140 o141 o142 o143 o144 o145 o146 o147 o148).bind (u11 fun (r249 : Int32) (o250 : Int32) (o251 : Int32) (o252 : Int32) (o253 : Int32) (o254 : Nat → Int32) (o255 : Nat → Int32) (o256 : Nat → Int32) (o257 : Nat → Int32) (o258 : Nat → Int32) (o259 : Nat → Int32) => (f_X4_bookOf l8_104 1 o250 (nI n) P L M Y o251 o252 o253 o254 o255 o256 o257 o258 o259).bind (u11 fun (r260 : Int32) (o261 : Int32) (o262 : Int32) (o263 : Int32) (o264 : Int32) (o265 : Nat → Int32) (o266 : Nat → Int32) (o267 : Nat → Int32) (o268 : Nat → Int32) (o269 : Nat → Int32) (o270 : Nat → Int32) => (if (r249 &&& (r260 ^^^ (-1))) = 0 then K248 (o261, o262, o263, o264, o265, o266, o267, o268, o269, o270) else K167 (o261, o262, o263, o264, o265, o266, o267, o268, o269, o270, 1))))))))) (fun K155 => (if (r151 - r151 / 2 * 2) = 1 then K155 1 else K155 0))))) (fun K153 => jn (u0 (K153 0)) (fun K271 => (if r151 ≤ 0 then K271 () else (f_X4_ahead (nI i) l8_104 (nI n) P L M Y).bind (u1 fun (r272 : Int32) => (if r272 ≤ 0 then K271 () else K153 1)))))))) (fun K150 => (if r127 = r138 then K150 1 else K150 0)))))))) 9999 ((nI (conR (eB P L M Y) i)), 1, 0, old, c, any, sz, bef, beh, fy, ly, aB, aH)).bind (u12 K)) R := by
  have h10 := C.1
  refine ok_wl (fun j s => s.1 = nI (conQ (eB P L M Y) i j) ∧ s.2.1 = 1 ∧ s.2.2.1 = nI j ∧ rsG (eB P L M Y) n Y s.2.2.2.1 s.2.2.2.2.1 s.2.2.2.2.2.1 s.2.2.2.2.2.2.1 s.2.2.2.2.2.2.2.1 s.2.2.2.2.2.2.2.2.1 s.2.2.2.2.2.2.2.2.2.1 s.2.2.2.2.2.2.2.2.2.2.1 s.2.2.2.2.2.2.2.2.2.2.2.1 s.2.2.2.2.2.2.2.2.2.2.2.2 tab) (fun r => r.1 = nI (conR (eB P L M Y) (i + 1)) ∧ r.2.1 = 1 ∧ rsG (eB P L M Y) n Y r.2.2.1 r.2.2.2.1 r.2.2.2.2.1 r.2.2.2.2.2.1 r.2.2.2.2.2.2.1 r.2.2.2.2.2.2.2.1 r.2.2.2.2.2.2.2.2.1 r.2.2.2.2.2.2.2.2.2.1 r.2.2.2.2.2.2.2.2.2.2.1 r.2.2.2.2.2.2.2.2.2.2.2 tab) i (by omega) ⟨rfl, rfl, rfl, h⟩ ?_ ?_ ?_
  · rintro j ⟨l4, l5, l8, v1, v2, v3, v4, v5, v6, v7, v8, v9, v10⟩ hj ⟨e1, e2, e3, h⟩
    dsimp only at e1 e2 e3 h
    subst e1; subst e2; subst e3
    refine ok_u13 ?_
    refine ok_nle hj (by omega) ?_
    refine ok_f (by decide) ?_
    refine k_bookOf (b := j) C (by omega) (by decide) nBk_0 h (fun o1 o2 o3 o4 o5 o6 o7 o8 o9 o10 h => ?_)
    refine k_bookOf (b := i) C hi (by decide) nBk_0 h (fun o1 o2 o3 o4 o5 o6 o7 o8 o9 o10 h => ?_)
    refine ok_jn (fun s => s = if P j = P i then 1 else 0) ?_ (fun K hK => ok_if (fun q => hK _ (if_pos q).symm) (fun q => hK _ (if_neg q).symm))
    rintro _ rfl
    refine ok_u1 ?_
    have hji : j ≠ i := by omega
    refine k_ahead (a := j) (b := i) C (by omega) hi hji ?_
    refine ok_jn (fun s => s = nI (if (eB P L M Y j i && eB P L M Y i j) = true then 1 else 0)) ?_ (fun K hK => ?_)
    rotate_left
    · refine ok_jd ?_
      refine ok_if (fun q => ok_u0 (hK 0 ?_)) (fun q => ?_)
      · have : eB P L M Y j i = false := by
          cases e : eB P L M Y j i with
          | false => rfl
          | true => exact absurd ((by_pos P L M Y j i).mp q) ((eB_by hji).mp e)
        rw [this]
        rfl
      · have e1 : eB P L M Y j i = true := (eB_by hji).mpr (fun z => q ((by_pos P L M Y j i).mpr z))
        refine k_ahead (a := i) (b := j) C hi (by omega) (Ne.symm hji) ?_
        refine ok_if (fun q2 => ok_u0 (hK 0 ?_)) (fun q2 => hK 1 ?_)
        · have : eB P L M Y i j = false := by
            cases e : eB P L M Y i j with
            | false => rfl
            | true => exact absurd ((by_pos P L M Y i j).mp q2) ((eB_by (Ne.symm hji)).mp e)
          rw [e1, this]
          rfl
        · have e2 : eB P L M Y i j = true := (eB_by (Ne.symm hji)).mpr (fun z => q2 ((by_pos P L M Y i j).mpr z))
          rw [e1, e2]
          rfl
    rintro _ rfl
    refine ok_u1 ?_
    refine ok_gZ (by decide) ?_
    refine ok_jn (fun s => s = if (P j = P i ∧ ¬ L i &&& ~~~(L j) = 0) then 1 else 0) ?_ (fun K hK => ok_if (fun q => hK _ (if_pos ((by_odd P L M Y j i).mp q)).symm) (fun q => hK _ (if_neg (fun z => q ((by_odd P L M Y j i).mpr z))).symm))
    rintro _ rfl
    refine ok_u1 ?_
    refine ok_jn (fun q => q.2.2.2.2.2.2.2.2.2.2 = (if (P j = P i ∧ ¬ L i &&& ~~~(L j) = 0) then 1 else 0) ∧ rsG (eB P L M Y) n Y q.1 q.2.1 q.2.2.1 q.2.2.2.1 q.2.2.2.2.1 q.2.2.2.2.2.1 q.2.2.2.2.2.2.1 q.2.2.2.2.2.2.2.1 q.2.2.2.2.2.2.2.2.1 q.2.2.2.2.2.2.2.2.2.1 tab) ?_ (fun K hK => ?_)
    rotate_left
    · refine ok_jd ?_
      by_cases hP : P j = P i
      · rw [if_pos hP]
        refine ok_f (by decide) ?_
        refine k_bookOf (b := i) C hi (by decide) nBk_1 h (fun o1 o2 o3 o4 o5 o6 o7 o8 o9 o10 h => ?_)
        refine k_bookOf (b := j) C (by omega) (by decide) nBk_1 h (fun o1 o2 o3 o4 o5 o6 o7 o8 o9 o10 h => ?_)
        have hx : L j ^^^ (-1) = ~~~(L j) := by
          apply Int32.toBitVec_inj.mp
          apply BitVec.eq_of_getLsbD_eq
          intro z hz
          simp [hz]
        rw [hx]
        refine ok_if (fun q => ok_u10 (hK _ ⟨?_, h⟩)) (fun q => hK _ ⟨?_, h⟩)
        · exact (if_neg (fun z => z.2 q)).symm
        · exact (if_pos ⟨hP, q⟩).symm
      · rw [if_neg hP]
        refine ok_t rfl ?_
        exact ok_u10 (hK _ ⟨(if_neg (fun z => hP z.1)).symm, h⟩)
    rintro ⟨v1, v2, v3, v4, v5, v6, v7, v8, v9, v10, s⟩ ⟨e, h⟩
    dsimp only at e h
    subst e
    refine ok_u11 ?_
    refine ok_jd ?_
    refine ok_jd ?_
    refine ok_t rfl ?_
    refine ok_jn (fun s => s = if lessB (Y j) (Y i) = true then 0 else 1) ?_ (fun K hK => ok_if (fun q => hK _ (if_pos ((by_four P L M Y j i).mp q)).symm) (fun q => hK _ (if_neg (fun z => q ((by_four P L M Y j i).mpr z))).symm))
    rintro _ rfl
    refine ok_u1 ?_
    refine k_bookOf (b := j) C (by omega) (by decide) nBk_3 h (fun o1 o2 o3 o4 o5 o6 o7 o8 o9 o10 h => ?_)
    refine ok_jn (fun q => q.2.2.2.2.2.2.2.2.2.2 = (if lessB (Y j) (Y i) = true then 0 else 1) ∧ rsG (eB P L M Y) n Y q.1 q.2.1 q.2.2.1 q.2.2.2.1 q.2.2.2.2.1 q.2.2.2.2.2.1 q.2.2.2.2.2.2.1 q.2.2.2.2.2.2.2.1 q.2.2.2.2.2.2.2.2.1 q.2.2.2.2.2.2.2.2.2.1 tab) ?_ (fun K hK => ?_)
    rotate_left
    · refine ok_jd ?_
      refine ok_if (fun q => ok_u10 (hK _ ⟨?_, h⟩)) (fun q => ?_)
      · exact (if_neg (by simp [lessB, q])).symm
      · refine ok_if (fun q2 => ok_u10 (hK _ ⟨?_, h⟩)) (fun q2 => ?_)
        · exact (if_neg (by simp [lessB, q2])).symm
        · refine k_bookOf (b := j) C (by omega) (by decide) nBk_3 h (fun o1 o2 o3 o4 o5 o6 o7 o8 o9 o10 h => ?_)
          refine ok_if (fun q3 => hK _ ⟨?_, h⟩) (fun q3 => ok_u10 (hK _ ⟨?_, h⟩))
          · exact (if_pos (by simp [lessB, q, q2, q3])).symm
          · exact (if_neg (by simp [lessB, q, q2, Int32.not_lt.mp q3])).symm
    rintro ⟨v1, v2, v3, v4, v5, v6, v7, v8, v9, v10, s⟩ ⟨e, h⟩
    dsimp only at e h
    subst e
    refine ok_u11 ?_
    refine ok_t rfl ?_
    refine ok_u11 ?_
    exact ok_s ⟨(nI_add _ _).trans (congrArg nI (Nat.add_assoc _ _ _)), rfl, nI_1 j, h⟩
  · rintro ⟨l4, l5, l8, v1, v2, v3, v4, v5, v6, v7, v8, v9, v10⟩ ⟨e1, e2, e3, h⟩
    dsimp only at e1 e2 e3 h
    subst e1; subst e2; subst e3
    refine ok_u13 ?_
    refine ok_yle (Nat.le_refl i) (by omega) ?_
    exact ok_s ⟨rfl, rfl, h⟩
  · rintro ⟨l4, l5, v1, v2, v3, v4, v5, v6, v7, v8, v9, v10⟩ ⟨e1, e2, h⟩
    dsimp only at e1 e2 h
    subst e1; subst e2
    exact ok_u12 (hK v1 v2 v3 v4 v5 v6 v7 v8 v9 v10 h)
theorem hunt_e {old c any sz hs : Int32} {bef beh fy ly aB aH tab : Nat → Int32} (C : shC n P L M Y) (h : rsG (eB P L M Y) n Y old c any sz bef beh fy ly aB aH tab) :
    Ok (f_L_hunt old (nI n) P L M Y hs c any sz bef beh fy ly aB aH tab) (fun o => o.1 = 1 ∧ rsG (eB P L M Y) n Y o.2.1 o.2.2.1 o.2.2.2.1 o.2.2.2.2.1 o.2.2.2.2.2.1 o.2.2.2.2.2.2.1 o.2.2.2.2.2.2.2.1 o.2.2.2.2.2.2.2.2.1 o.2.2.2.2.2.2.2.2.2.1 o.2.2.2.2.2.2.2.2.2.2.1 o.2.2.2.2.2.2.2.2.2.2.2) := by
  have h10 := C.1
  unfold f_L_hunt
  refine k_count C (by decide) nAl_0 h (fun o1 o2 o3 o4 o5 o6 o7 o8 o9 o10 o11 h => ?_)
  refine ok_jd ?_
  refine ok_jd ?_
  refine ok_f (le_lit h10 (by decide)) ?_
  refine k_count C (by decide) (nAl_p (Or.inl rfl)) h (fun o1 o2 o3 o4 o5 o6 o7 o8 o9 o10 o11 h => ?_)
  refine k_count C (by decide) (nAl_p (Or.inr (Or.inl rfl))) h (fun o1 o2 o3 o4 o5 o6 o7 o8 o9 o10 o11 h => ?_)
  refine k_count C (by decide) (nAl_p (Or.inr (Or.inr rfl))) h (fun o1 o2 o3 o4 o5 o6 o7 o8 o9 o10 o11 h => ?_)
  refine ok_t (by rw [nI_add, nI_add]; exact congrArg nI (pr_sum C.2.2.2)) ?_
  refine ok_u12 ?_
  refine ok_wl (fun i s => s.1 = nI (dtd i (fyV (eB P L M Y) n Y) (lyV (eB P L M Y) n Y)) ∧ s.2.1 = nI (havY i Y) ∧ s.2.2.1 = nI (conR (eB P L M Y) i) ∧ s.2.2.2.1 = 1 ∧ s.2.2.2.2.1 = nI i ∧ rsG (eB P L M Y) n Y s.2.2.2.2.2.1 s.2.2.2.2.2.2.1 s.2.2.2.2.2.2.2.1 s.2.2.2.2.2.2.2.2.1 s.2.2.2.2.2.2.2.2.2.1 s.2.2.2.2.2.2.2.2.2.2.1 s.2.2.2.2.2.2.2.2.2.2.2.1 s.2.2.2.2.2.2.2.2.2.2.2.2.1 s.2.2.2.2.2.2.2.2.2.2.2.2.2.1 s.2.2.2.2.2.2.2.2.2.2.2.2.2.2 o11) (fun r => r.1 = nI (dtdV (eB P L M Y) n Y) ∧ r.2.1 = nI (havY n Y) ∧ r.2.2.1 = nI (conP (eB P L M Y) n) ∧ r.2.2.2.1 = 1 ∧ rsG (eB P L M Y) n Y r.2.2.2.2.1 r.2.2.2.2.2.1 r.2.2.2.2.2.2.1 r.2.2.2.2.2.2.2.1 r.2.2.2.2.2.2.2.2.1 r.2.2.2.2.2.2.2.2.2.1 r.2.2.2.2.2.2.2.2.2.2.1 r.2.2.2.2.2.2.2.2.2.2.2.1 r.2.2.2.2.2.2.2.2.2.2.2.2.1 r.2.2.2.2.2.2.2.2.2.2.2.2.2 o11) n (by omega) ⟨rfl, rfl, rfl, rfl, rfl, h⟩ ?_ ?_ ?_
  · rintro i ⟨l2, l3, l4, l5, l6, v1, v2, v3, v4, v5, v6, v7, v8, v9, v10⟩ hi ⟨e1, e2, e3, e4, e5, h⟩
    dsimp only at e1 e2 e3 e4 e5 h
    subst e1; subst e2; subst e3; subst e4; subst e5
    refine ok_u15 ?_
    refine ok_nle hi (by omega) ?_
    refine ok_f (by decide) ?_
    refine k_bookOf (b := i) C hi (by decide) nBk_3 h (fun o1 o2 o3 o4 o5 o6 o7 o8 o9 o10 h => ?_)
    refine k_bookOf (b := i) C hi (by decide) nBk_7 h (fun o1 o2 o3 o4 o5 o6 o7 o8 o9 o10 h => ?_)
    have hyr := (C.2.1 i hi).2
    refine ok_jn (fun s => s = if Y i = -1 then 0 else 1) ?_ (fun K hK => ok_if (fun q => hK _ ?_) (fun q => hK _ ?_))
    rotate_left
    · rcases hyr with z | z
      · exact (if_pos z).symm
      · exact absurd q (Int32.not_lt.mpr (Int32.le_trans (by decide) z.1))
    · rcases hyr with z | z
      · exact absurd (show Y i < 0 by rw [z]; decide) q
      · exact (if_neg (fun e => by rw [e] at z; exact absurd z.1 (by decide))).symm
    rintro _ rfl
    refine ok_u1 ?_
    have hfy := fy_rg (E := eB P L M Y) C.2.1 hi
    have hly := ly_rg (E := eB P L M Y) C.2.1 hi
    refine k_bookOf (b := i) C hi (by decide) nBk_5 h (fun o1 o2 o3 o4 o5 o6 o7 o8 o9 o10 h => ?_)
    refine ok_jd ?_
    refine ok_jd ?_
    refine ok_f (Int32.not_lt.mpr hfy.1) ?_
    refine k_bookOf (b := i) C hi (by decide) nBk_6 h (fun o1 o2 o3 o4 o5 o6 o7 o8 o9 o10 h => ?_)
    refine ok_f (Int32.not_lt.mpr hly.1) ?_
    refine ok_jn (fun q => rsG (eB P L M Y) n Y q.1 q.2.1 q.2.2.1 q.2.2.2.1 q.2.2.2.2.1 q.2.2.2.2.2.1 q.2.2.2.2.2.2.1 q.2.2.2.2.2.2.2.1 q.2.2.2.2.2.2.2.2.1 q.2.2.2.2.2.2.2.2.2 o11) ?_ (fun K hK => ?_)
    rotate_left
    · refine ok_if (fun q => hK _ h) (fun q => ?_)
      refine k_bookOf (b := i) C hi (by decide) nBk_5 h (fun o1 o2 o3 o4 o5 o6 o7 o8 o9 o10 h => ?_)
      refine ok_f (Int32.not_lt.mpr (hfy.2 q)) ?_
      refine k_bookOf (b := i) C hi (by decide) nBk_6 h (fun o1 o2 o3 o4 o5 o6 o7 o8 o9 o10 h => ?_)
      refine ok_f (Int32.not_lt.mpr (hly.2 q)) ?_
      exact hK _ h
    rintro ⟨v1, v2, v3, v4, v5, v6, v7, v8, v9, v10⟩ h
    refine ok_u10 ?_
    refine k_bookOf (b := i) C hi (by decide) nBk_7 h (fun o1 o2 o3 o4 o5 o6 o7 o8 o9 o10 h => ?_)
    refine ok_jn (fun s => s = if fyV (eB P L M Y) n Y i = lyV (eB P L M Y) n Y i then 1 else 0) ?_ (fun K hK => ok_if (fun q => hK _ q.symm) (fun q => hK _ ?_))
    rotate_left
    · by_cases z : fyV (eB P L M Y) n Y i = lyV (eB P L M Y) n Y i
      · exact absurd (if_pos z) q
      · exact (if_neg z).symm
    rintro _ rfl
    refine ok_u1 ?_
    refine k_bookOf (b := i) C hi (by decide) nBk_5 h (fun o1 o2 o3 o4 o5 o6 o7 o8 o9 o10 h => ?_)
    refine k_bookOf (b := i) C hi (by decide) nBk_6 h (fun o1 o2 o3 o4 o5 o6 o7 o8 o9 o10 h => ?_)
    refine ok_jn (fun s => s = if fyV (eB P L M Y) n Y i = lyV (eB P L M Y) n Y i then 1 else 0) ?_ (fun K hK => ok_if (fun q => hK _ (if_pos q).symm) (fun q => hK _ (if_neg q).symm))
    rintro _ rfl
    refine ok_u1 ?_
    refine ok_t rfl ?_
    refine k_bookOf (b := i) C hi (by decide) nBk_4 h (fun o1 o2 o3 o4 o5 o6 o7 o8 o9 o10 h => ?_)
    refine k_bookOf (b := i) C hi (by decide) nBk_1 h (fun o1 o2 o3 o4 o5 o6 o7 o8 o9 o10 h => ?_)
    refine ok_be (lm_ones C.2.2.1 hi) ?_
    refine ok_u1 ?_
    refine ok_t rfl ?_
    have hcd : ∀ S, cd n S < 2 ^ 31 := fun S => by have := cd_le S n; omega
    refine k_bookOf (b := i) C hi (by decide) nBk_10 h (fun o1 o2 o3 o4 o5 o6 o7 o8 o9 o10 h => ?_)
    refine k_bookOf (b := i) C hi (by decide) nBk_8 h (fun o1 o2 o3 o4 o5 o6 o7 o8 o9 o10 h => ?_)
    refine ok_f (le_lit (cd_mono (fun z hz => by rw [Nat.testBit_and, Bool.and_eq_true] at hz; exact hz.1) n) (hcd _)) ?_
    refine k_bookOf (b := i) C hi (by decide) nBk_10 h (fun o1 o2 o3 o4 o5 o6 o7 o8 o9 o10 h => ?_)
    refine k_bookOf (b := i) C hi (by decide) nBk_9 h (fun o1 o2 o3 o4 o5 o6 o7 o8 o9 o10 h => ?_)
    refine ok_f (le_lit (cd_mono (fun z hz => by rw [Nat.testBit_and, Bool.and_eq_true] at hz; exact hz.2) n) (hcd _)) ?_
    refine ok_u11 ?_
    refine inner_e C hi h (fun o1 o2 o3 o4 o5 o6 o7 o8 o9 o10 h => ?_)
    exact ok_s ⟨ad_if, ad_if0, rfl, rfl, nI_1 i, h⟩
  · rintro ⟨l2, l3, l4, l5, l6, v1, v2, v3, v4, v5, v6, v7, v8, v9, v10⟩ ⟨e1, e2, e3, e4, e5, h⟩
    dsimp only at e1 e2 e3 e4 e5 h
    subst e1; subst e2; subst e3; subst e4; subst e5
    refine ok_u15 ?_
    refine ok_yle (Nat.le_refl n) (by omega) ?_
    exact ok_s ⟨rfl, rfl, rfl, rfl, h⟩
  · rintro ⟨l2, l3, l4, l5, v1, v2, v3, v4, v5, v6, v7, v8, v9, v10⟩ ⟨e1, e2, e3, e4, h⟩
    dsimp only at e1 e2 e3 e4 h
    subst e1; subst e2; subst e3; subst e4
    refine ok_u14 ?_
    refine ok_jd ?_
    refine ok_jd ?_
    refine ok_f (by decide) ?_
    refine k_count C (by decide) nAl_1 h (fun o1 o2 o3 o4 o5 o6 o7 o8 o9 o10 o11 h => ?_)
    refine ok_t rfl ?_
    refine k_count C (by decide) nAl_2 h (fun o1 o2 o3 o4 o5 o6 o7 o8 o9 o10 o11 h => ?_)
    refine ok_t rfl ?_
    refine k_count C (by decide) nAl_3 h (fun o1 o2 o3 o4 o5 o6 o7 o8 o9 o10 o11 h => ?_)
    refine ok_t rfl ?_
    refine ok_u12 ?_
    refine ok_gB (Or.inr rfl) ?_
    exact ok_s ⟨rfl, h⟩
end Hunt
