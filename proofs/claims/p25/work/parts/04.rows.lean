/-! rows of this work: a judgement GG over explicit worlds and locals; each row takes one instruction, and one step of the method's functional reading (h : .. = some r) -/
def rdA (f : Nat → Int32) (n : Nat) (i : Int32) : Option Int32 := if i < 0 ∨ n ≤ i.toNatClampNeg then none else some (f i.toNatClampNeg)
def wrA (f : Nat → Int32) (n : Nat) (i x : Int32) : Option (Nat → Int32) := if i < 0 ∨ n ≤ i.toNatClampNeg then none else some (upd f i.toNatClampNeg x)
def rdL (f : Nat → Int64) (n : Nat) (i : Int32) : Option Int64 := if i < 0 ∨ n ≤ i.toNatClampNeg then none else some (f i.toNatClampNeg)
def wrL (f : Nat → Int64) (n : Nat) (i : Int32) (x : Int64) : Option (Nat → Int64) := if i < 0 ∨ n ≤ i.toNatClampNeg then none else some (vp_updL f i.toNatClampNeg x)
def gB {α : Type} (v : Int32) (k : Option α) : Option α := if v = 0 ∨ v = 1 then k else none
def gZ {α : Type} (v : Int32) (k : Option α) : Option α := if v = 0 then none else k
def gN {α : Type} (v : UInt64) (k : UInt64 → Option α) : Option α := if v &&& 0x7fffffffffffffff ≤ 0x7ff0000000000000 then k v else none
def jn {σ τ : Type} (k : σ → Option τ) (body : (σ → Option τ) → Option τ) : Option τ := body k
def wl {σ ρ : Type} (step : σ → Option (σ ⊕ ρ)) : Nat → σ → Option ρ
  | 0, _ => none
  | n + 1, a => (step a).bind fun o => match o with
    | .inl b => wl step n b
    | .inr r => some r
theorem rdA_e {f : Nat → Int32} {n : Nat} {i v : Int32} (h : rdA f n i = some v) : vp_in i n ∧ v = f i.toNatClampNeg := by
  unfold rdA at h
  split at h
  · cases h
  · next c => exact ⟨c, (Option.some.inj h).symm⟩
theorem wrA_e {f : Nat → Int32} {n : Nat} {i x : Int32} {g : Nat → Int32} (h : wrA f n i x = some g) : vp_in i n ∧ g = upd f i.toNatClampNeg x := by
  unfold wrA at h
  split at h
  · cases h
  · next c => exact ⟨c, (Option.some.inj h).symm⟩
theorem rdL_e {f : Nat → Int64} {n : Nat} {i : Int32} {v : Int64} (h : rdL f n i = some v) : vp_in i n ∧ v = f i.toNatClampNeg := by
  unfold rdL at h
  split at h
  · cases h
  · next c => exact ⟨c, (Option.some.inj h).symm⟩
theorem wrL_e {f : Nat → Int64} {n : Nat} {i : Int32} {x : Int64} {g : Nat → Int64} (h : wrL f n i x = some g) : vp_in i n ∧ g = vp_updL f i.toNatClampNeg x := by
  unfold wrL at h
  split at h
  · cases h
  · next c => exact ⟨c, (Option.some.inj h).symm⟩
theorem bd_e {α β : Type} {x : Option α} {k : α → Option β} {r : β} (h : x.bind k = some r) : ∃ a, x = some a ∧ k a = some r := by
  cases x with
  | none => cases h
  | some a => exact ⟨a, rfl, h⟩
theorem gB_e {α : Type} {v : Int32} {k : Option α} {r : α} (h : gB v k = some r) : (v = 0 ∨ v = 1) ∧ k = some r := by
  unfold gB at h
  split at h
  · next c => exact ⟨c, h⟩
  · cases h
theorem gZ_e {α : Type} {v : Int32} {k : Option α} {r : α} (h : gZ v k = some r) : ¬ v = 0 ∧ k = some r := by
  unfold gZ at h
  split at h
  · cases h
  · next c => exact ⟨c, h⟩
theorem gN_e {α : Type} {v : UInt64} {k : UInt64 → Option α} {r : α} (h : gN v k = some r) : vf_n64 v ∧ k v = some r := by
  unfold gN at h
  split at h
  · next c => exact ⟨c, h⟩
  · cases h
theorem if_t {α : Type} {c : Prop} [Decidable c] {x y : Option α} {r : α} (h : (if c then x else y) = some r) (hc : c) : x = some r := by rwa [if_pos hc] at h
theorem if_f {α : Type} {c : Prop} [Decidable c] {x y : Option α} {r : α} (h : (if c then x else y) = some r) (hc : ¬ c) : y = some r := by rwa [if_neg hc] at h
theorem jn_i {σ τ : Type} {k : σ → Option τ} {body : (σ → Option τ) → Option τ} {r : τ} {P : Prop} (h : jn k body = some r) (H : ∀ K : σ → Option τ, (∀ v, K v = some r → k v = some r) → body K = some r → P) : P := H k (fun _ h => h) h
/-- a loop: from the head with a, if the loop and what is behind it come to r -/
theorem wl_i {σ ρ τ : Type} {step : σ → Option (σ ⊕ ρ)} {k : ρ → Option τ} {r : τ} {M : σ → Prop}
    (hs : ∀ (a : σ) (o : σ ⊕ ρ), step a = some o → (∀ b, o = .inl b → M b) → (∀ q, o = .inr q → k q = some r) → M a) : ∀ (N : Nat) (a : σ), (wl step N a).bind k = some r → M a
  | 0, _, h => by cases h
  | N + 1, a, h => by
    cases ho : step a with
    | none =>
      rw [show wl step (N + 1) a = none by simp [wl, ho]] at h
      cases h
    | some o =>
      refine hs a o ho (fun b hb => ?_) (fun q hq => ?_)
      · subst hb
        rw [show wl step (N + 1) a = wl step N b by simp [wl, ho]] at h
        exact wl_i hs N b h
      · subst hq
        rw [show wl step (N + 1) a = some q by simp [wl, ho]] at h
        exact h
/-- a callee's cells in a world: taken out, and put back -/
def wpick (ws : va_W) (is : List Nat) : List (Option (Nat × va_E)) := is.map (fun i => ws[i]?)
def wput : va_W → List Nat → va_W → va_W
  | ws, i :: is, q :: qs => wput (ws.set i q) is qs
  | ws, _, _ => ws
theorem wput_len : ∀ (ws : va_W) (is : List Nat) (qs : va_W), (wput ws is qs).length = ws.length
  | _, [], _ => by simp [wput]
  | _, _ :: _, [] => by simp [wput]
  | ws, i :: is, q :: qs => by
    rw [wput, wput_len (ws.set i q) is qs, List.length_set]
/-- each place of wput is either a place of the callee's world, or untouched -/
theorem wput_get : ∀ (ws : va_W) (is : List Nat) (qs : va_W) (k : Nat) (x : Nat × va_E), (wput ws is qs)[k]? = some x → (∃ j : Nat, is[j]? = some k ∧ qs[j]? = some x) ∨ (ws[k]? = some x ∧ ∀ j : Nat, j < qs.length → is[j]? ≠ some k)
  | ws, [], qs, k, x, h => Or.inr ⟨by simpa [wput] using h, fun j _ => by simp⟩
  | ws, i :: is, [], k, x, h => Or.inr ⟨by simpa [wput] using h, fun j hj => by simp at hj⟩
  | ws, i :: is, q :: qs, k, x, h => by
    rw [wput] at h
    rcases wput_get (ws.set i q) is qs k x h with ⟨j, h1, h2⟩ | ⟨h1, h2⟩
    · exact Or.inl ⟨j + 1, by simpa using h1, by simpa using h2⟩
    · by_cases hk : i = k
      · subst hk
        have hl : i < ws.length := by
          have := (List.getElem?_eq_some_iff.mp h1).1
          simpa using this
        rw [List.getElem?_set_self hl] at h1
        exact Or.inl ⟨0, by simp, by simpa using h1⟩
      · rw [List.getElem?_set_ne hk] at h1
        refine Or.inr ⟨h1, fun j hj => ?_⟩
        cases j with
        | zero => simp; exact hk
        | succ j => simp at hj ⊢; exact h2 j hj
theorem wpick_get {ws wc : va_W} {is : List Nat} (hC : wpick ws is = wc.map some) {j k : Nat} (h : is[j]? = some k) : ∃ q, wc[j]? = some q ∧ ws[k]? = some q := by
  have h1 : (wpick ws is)[j]? = some (ws[k]?) := by unfold wpick; rw [List.getElem?_map, h]; rfl
  rw [hC, List.getElem?_map] at h1
  cases hq : wc[j]? with
  | none => rw [hq] at h1; cases h1
  | some q => rw [hq] at h1; exact ⟨q, rfl, (Option.some.inj h1).symm⟩
theorem wpick_get' {ws wc : va_W} {is : List Nat} (hC : wpick ws is = wc.map some) {j : Nat} {q : Nat × va_E} (h : wc[j]? = some q) : ∃ k, is[j]? = some k ∧ ws[k]? = some q := by
  have h1 : (wpick ws is)[j]? = some (some q) := by rw [hC, List.getElem?_map, h]; rfl
  unfold wpick at h1
  rw [List.getElem?_map] at h1
  cases hk : is[j]? with
  | none => rw [hk] at h1; cases h1
  | some k => rw [hk] at h1; exact ⟨k, rfl, Option.some.inj h1⟩
/-- behind a call that makes no cell and moves none: the callee's world is put back at its places -/
theorem wput_join {A0 : Nat → Prop} {D : va_G} {cl : List vw_C} {ws wc w1 : va_W} {H H1 : Heap} {is : List Nat} (hP : va_P D cl ws H) (hD : va_D A0 ws) (hC : wpick ws is = wc.map some) (had : w1.map (·.1) = wc.map (·.1))
    (hk : ∀ q : Nat, q < H.size → ¬ va_A wc H.size q → H1[q]? = H[q]?) (hP1 : va_P D cl w1 H1) : va_P D cl (wput ws is w1) H1 ∧ va_D A0 (wput ws is w1) := by
  have key : ∀ (k : Nat) (x : Nat × va_E), (wput ws is w1)[k]? = some x → ∃ y, ws[k]? = some y ∧ y.1 = x.1 := by
    intro k x hx
    rcases wput_get ws is w1 k x hx with ⟨j, h1, h2⟩ | ⟨h1, -⟩
    · obtain ⟨q, h3, h4⟩ := wpick_get hC h1
      refine ⟨q, h4, ?_⟩
      have e1 : (w1.map (·.1))[j]? = some x.1 := by rw [List.getElem?_map, h2]; rfl
      rw [had, List.getElem?_map, h3] at e1
      exact Option.some.inj e1
    · exact ⟨x, h1, rfl⟩
  refine ⟨fun k x hx => ?_, fun i j x y hi hj hxy => ?_, fun k x hx => ?_⟩
  · rcases wput_get ws is w1 k x hx with ⟨j, h1, h2⟩ | ⟨h1, h2⟩
    · exact hP1 j x h2
    · refine (hP k x h1).kept (hk x.1 (hP k x h1).lt (fun hA => ?_))
      rcases hA with ⟨j, e, hj⟩ | hA
      · obtain ⟨k2, h3, h4⟩ := wpick_get' hC hj
        have hkk := hD.1 k k2 x (x.1, e) h1 h4 rfl
        subst hkk
        have hjl : j < w1.length := by
          have h5 : (w1.map (·.1)).length = (wc.map (·.1)).length := by rw [had]
          rw [List.length_map, List.length_map] at h5
          rw [h5]
          exact (List.getElem?_eq_some_iff.mp hj).1
        exact h2 j hjl h3
      · have := (hP k x h1).lt
        omega
  · obtain ⟨x', a1, a2⟩ := key i x hi
    obtain ⟨y', b1, b2⟩ := key j y hj
    exact hD.1 i j x' y' a1 b1 (a2.trans (hxy.trans b2.symm))
  · obtain ⟨y, a1, a2⟩ := key k x hx
    rw [← a2]
    exact hD.2 k y a1
def u0 {T : Type} (k : T) (_ : Unit) : T := k
def u1 {A1 T : Type} (k : A1 → T) (q : A1) : T := k q
def u2 {A1 A2 T : Type} (k : A1 → A2 → T) (q : A1 × A2) : T := k q.1 q.2
def u3 {A1 A2 A3 T : Type} (k : A1 → A2 → A3 → T) (q : A1 × A2 × A3) : T := k q.1 q.2.1 q.2.2
def u4 {A1 A2 A3 A4 T : Type} (k : A1 → A2 → A3 → A4 → T) (q : A1 × A2 × A3 × A4) : T := k q.1 q.2.1 q.2.2.1 q.2.2.2
def u5 {A1 A2 A3 A4 A5 T : Type} (k : A1 → A2 → A3 → A4 → A5 → T) (q : A1 × A2 × A3 × A4 × A5) : T := k q.1 q.2.1 q.2.2.1 q.2.2.2.1 q.2.2.2.2
def u6 {A1 A2 A3 A4 A5 A6 T : Type} (k : A1 → A2 → A3 → A4 → A5 → A6 → T) (q : A1 × A2 × A3 × A4 × A5 × A6) : T := k q.1 q.2.1 q.2.2.1 q.2.2.2.1 q.2.2.2.2.1 q.2.2.2.2.2
def u7 {A1 A2 A3 A4 A5 A6 A7 T : Type} (k : A1 → A2 → A3 → A4 → A5 → A6 → A7 → T) (q : A1 × A2 × A3 × A4 × A5 × A6 × A7) : T := k q.1 q.2.1 q.2.2.1 q.2.2.2.1 q.2.2.2.2.1 q.2.2.2.2.2.1 q.2.2.2.2.2.2
def u8 {A1 A2 A3 A4 A5 A6 A7 A8 T : Type} (k : A1 → A2 → A3 → A4 → A5 → A6 → A7 → A8 → T) (q : A1 × A2 × A3 × A4 × A5 × A6 × A7 × A8) : T := k q.1 q.2.1 q.2.2.1 q.2.2.2.1 q.2.2.2.2.1 q.2.2.2.2.2.1 q.2.2.2.2.2.2.1 q.2.2.2.2.2.2.2
def u9 {A1 A2 A3 A4 A5 A6 A7 A8 A9 T : Type} (k : A1 → A2 → A3 → A4 → A5 → A6 → A7 → A8 → A9 → T) (q : A1 × A2 × A3 × A4 × A5 × A6 × A7 × A8 × A9) : T := k q.1 q.2.1 q.2.2.1 q.2.2.2.1 q.2.2.2.2.1 q.2.2.2.2.2.1 q.2.2.2.2.2.2.1 q.2.2.2.2.2.2.2.1 q.2.2.2.2.2.2.2.2
def u10 {A1 A2 A3 A4 A5 A6 A7 A8 A9 A10 T : Type} (k : A1 → A2 → A3 → A4 → A5 → A6 → A7 → A8 → A9 → A10 → T) (q : A1 × A2 × A3 × A4 × A5 × A6 × A7 × A8 × A9 × A10) : T := k q.1 q.2.1 q.2.2.1 q.2.2.2.1 q.2.2.2.2.1 q.2.2.2.2.2.1 q.2.2.2.2.2.2.1 q.2.2.2.2.2.2.2.1 q.2.2.2.2.2.2.2.2.1 q.2.2.2.2.2.2.2.2.2
def u11 {A1 A2 A3 A4 A5 A6 A7 A8 A9 A10 A11 T : Type} (k : A1 → A2 → A3 → A4 → A5 → A6 → A7 → A8 → A9 → A10 → A11 → T) (q : A1 × A2 × A3 × A4 × A5 × A6 × A7 × A8 × A9 × A10 × A11) : T := k q.1 q.2.1 q.2.2.1 q.2.2.2.1 q.2.2.2.2.1 q.2.2.2.2.2.1 q.2.2.2.2.2.2.1 q.2.2.2.2.2.2.2.1 q.2.2.2.2.2.2.2.2.1 q.2.2.2.2.2.2.2.2.2.1 q.2.2.2.2.2.2.2.2.2.2
def u12 {A1 A2 A3 A4 A5 A6 A7 A8 A9 A10 A11 A12 T : Type} (k : A1 → A2 → A3 → A4 → A5 → A6 → A7 → A8 → A9 → A10 → A11 → A12 → T) (q : A1 × A2 × A3 × A4 × A5 × A6 × A7 × A8 × A9 × A10 × A11 × A12) : T := k q.1 q.2.1 q.2.2.1 q.2.2.2.1 q.2.2.2.2.1 q.2.2.2.2.2.1 q.2.2.2.2.2.2.1 q.2.2.2.2.2.2.2.1 q.2.2.2.2.2.2.2.2.1 q.2.2.2.2.2.2.2.2.2.1 q.2.2.2.2.2.2.2.2.2.2.1 q.2.2.2.2.2.2.2.2.2.2.2
theorem bd0 {B : Type} {x : Option (Unit)} {k : Option B} {r : B} (h : x.bind (u0 k) = some r) : x = some () ∧ k  = some r := by
  obtain ⟨⟨⟩, h1, h2⟩ := bd_e h
  exact ⟨h1, h2⟩
theorem bd1 {A1 B : Type} {x : Option (A1)} {k : A1 → Option B} {r : B} (h : x.bind (u1 k) = some r) : ∃ a1, x = some a1 ∧ k a1 = some r := by
  obtain ⟨a1, h1, h2⟩ := bd_e h
  exact ⟨a1, h1, h2⟩
theorem bd2 {A1 A2 B : Type} {x : Option (A1 × A2)} {k : A1 → A2 → Option B} {r : B} (h : x.bind (u2 k) = some r) : ∃ a1 a2, x = some (a1, a2) ∧ k a1 a2 = some r := by
  obtain ⟨⟨a1, a2⟩, h1, h2⟩ := bd_e h
  exact ⟨a1, a2, h1, h2⟩
theorem bd3 {A1 A2 A3 B : Type} {x : Option (A1 × A2 × A3)} {k : A1 → A2 → A3 → Option B} {r : B} (h : x.bind (u3 k) = some r) : ∃ a1 a2 a3, x = some (a1, a2, a3) ∧ k a1 a2 a3 = some r := by
  obtain ⟨⟨a1, a2, a3⟩, h1, h2⟩ := bd_e h
  exact ⟨a1, a2, a3, h1, h2⟩
theorem bd4 {A1 A2 A3 A4 B : Type} {x : Option (A1 × A2 × A3 × A4)} {k : A1 → A2 → A3 → A4 → Option B} {r : B} (h : x.bind (u4 k) = some r) : ∃ a1 a2 a3 a4, x = some (a1, a2, a3, a4) ∧ k a1 a2 a3 a4 = some r := by
  obtain ⟨⟨a1, a2, a3, a4⟩, h1, h2⟩ := bd_e h
  exact ⟨a1, a2, a3, a4, h1, h2⟩
theorem bd5 {A1 A2 A3 A4 A5 B : Type} {x : Option (A1 × A2 × A3 × A4 × A5)} {k : A1 → A2 → A3 → A4 → A5 → Option B} {r : B} (h : x.bind (u5 k) = some r) : ∃ a1 a2 a3 a4 a5, x = some (a1, a2, a3, a4, a5) ∧ k a1 a2 a3 a4 a5 = some r := by
  obtain ⟨⟨a1, a2, a3, a4, a5⟩, h1, h2⟩ := bd_e h
  exact ⟨a1, a2, a3, a4, a5, h1, h2⟩
theorem bd6 {A1 A2 A3 A4 A5 A6 B : Type} {x : Option (A1 × A2 × A3 × A4 × A5 × A6)} {k : A1 → A2 → A3 → A4 → A5 → A6 → Option B} {r : B} (h : x.bind (u6 k) = some r) : ∃ a1 a2 a3 a4 a5 a6, x = some (a1, a2, a3, a4, a5, a6) ∧ k a1 a2 a3 a4 a5 a6 = some r := by
  obtain ⟨⟨a1, a2, a3, a4, a5, a6⟩, h1, h2⟩ := bd_e h
  exact ⟨a1, a2, a3, a4, a5, a6, h1, h2⟩
theorem bd7 {A1 A2 A3 A4 A5 A6 A7 B : Type} {x : Option (A1 × A2 × A3 × A4 × A5 × A6 × A7)} {k : A1 → A2 → A3 → A4 → A5 → A6 → A7 → Option B} {r : B} (h : x.bind (u7 k) = some r) : ∃ a1 a2 a3 a4 a5 a6 a7, x = some (a1, a2, a3, a4, a5, a6, a7) ∧ k a1 a2 a3 a4 a5 a6 a7 = some r := by
  obtain ⟨⟨a1, a2, a3, a4, a5, a6, a7⟩, h1, h2⟩ := bd_e h
  exact ⟨a1, a2, a3, a4, a5, a6, a7, h1, h2⟩
theorem bd8 {A1 A2 A3 A4 A5 A6 A7 A8 B : Type} {x : Option (A1 × A2 × A3 × A4 × A5 × A6 × A7 × A8)} {k : A1 → A2 → A3 → A4 → A5 → A6 → A7 → A8 → Option B} {r : B} (h : x.bind (u8 k) = some r) : ∃ a1 a2 a3 a4 a5 a6 a7 a8, x = some (a1, a2, a3, a4, a5, a6, a7, a8) ∧ k a1 a2 a3 a4 a5 a6 a7 a8 = some r := by
  obtain ⟨⟨a1, a2, a3, a4, a5, a6, a7, a8⟩, h1, h2⟩ := bd_e h
  exact ⟨a1, a2, a3, a4, a5, a6, a7, a8, h1, h2⟩
theorem bd9 {A1 A2 A3 A4 A5 A6 A7 A8 A9 B : Type} {x : Option (A1 × A2 × A3 × A4 × A5 × A6 × A7 × A8 × A9)} {k : A1 → A2 → A3 → A4 → A5 → A6 → A7 → A8 → A9 → Option B} {r : B} (h : x.bind (u9 k) = some r) : ∃ a1 a2 a3 a4 a5 a6 a7 a8 a9, x = some (a1, a2, a3, a4, a5, a6, a7, a8, a9) ∧ k a1 a2 a3 a4 a5 a6 a7 a8 a9 = some r := by
  obtain ⟨⟨a1, a2, a3, a4, a5, a6, a7, a8, a9⟩, h1, h2⟩ := bd_e h
  exact ⟨a1, a2, a3, a4, a5, a6, a7, a8, a9, h1, h2⟩
theorem bd10 {A1 A2 A3 A4 A5 A6 A7 A8 A9 A10 B : Type} {x : Option (A1 × A2 × A3 × A4 × A5 × A6 × A7 × A8 × A9 × A10)} {k : A1 → A2 → A3 → A4 → A5 → A6 → A7 → A8 → A9 → A10 → Option B} {r : B} (h : x.bind (u10 k) = some r) : ∃ a1 a2 a3 a4 a5 a6 a7 a8 a9 a10, x = some (a1, a2, a3, a4, a5, a6, a7, a8, a9, a10) ∧ k a1 a2 a3 a4 a5 a6 a7 a8 a9 a10 = some r := by
  obtain ⟨⟨a1, a2, a3, a4, a5, a6, a7, a8, a9, a10⟩, h1, h2⟩ := bd_e h
  exact ⟨a1, a2, a3, a4, a5, a6, a7, a8, a9, a10, h1, h2⟩
theorem bd11 {A1 A2 A3 A4 A5 A6 A7 A8 A9 A10 A11 B : Type} {x : Option (A1 × A2 × A3 × A4 × A5 × A6 × A7 × A8 × A9 × A10 × A11)} {k : A1 → A2 → A3 → A4 → A5 → A6 → A7 → A8 → A9 → A10 → A11 → Option B} {r : B} (h : x.bind (u11 k) = some r) : ∃ a1 a2 a3 a4 a5 a6 a7 a8 a9 a10 a11, x = some (a1, a2, a3, a4, a5, a6, a7, a8, a9, a10, a11) ∧ k a1 a2 a3 a4 a5 a6 a7 a8 a9 a10 a11 = some r := by
  obtain ⟨⟨a1, a2, a3, a4, a5, a6, a7, a8, a9, a10, a11⟩, h1, h2⟩ := bd_e h
  exact ⟨a1, a2, a3, a4, a5, a6, a7, a8, a9, a10, a11, h1, h2⟩
theorem bd12 {A1 A2 A3 A4 A5 A6 A7 A8 A9 A10 A11 A12 B : Type} {x : Option (A1 × A2 × A3 × A4 × A5 × A6 × A7 × A8 × A9 × A10 × A11 × A12)} {k : A1 → A2 → A3 → A4 → A5 → A6 → A7 → A8 → A9 → A10 → A11 → A12 → Option B} {r : B} (h : x.bind (u12 k) = some r) : ∃ a1 a2 a3 a4 a5 a6 a7 a8 a9 a10 a11 a12, x = some (a1, a2, a3, a4, a5, a6, a7, a8, a9, a10, a11, a12) ∧ k a1 a2 a3 a4 a5 a6 a7 a8 a9 a10 a11 a12 = some r := by
  obtain ⟨⟨a1, a2, a3, a4, a5, a6, a7, a8, a9, a10, a11, a12⟩, h1, h2⟩ := bd_e h
  exact ⟨a1, a2, a3, a4, a5, a6, a7, a8, a9, a10, a11, a12, h1, h2⟩

theorem g_zeroI {x : Int32} : x = 0 ∨ x = 1 → narrow .boolean (.int x) = .int x := by rintro (rfl | rfl) <;> rfl
theorem g_zeroF {x : Int32} : x = 0 ∨ x = 1 → fits .boolean (.int x) = true := by rintro (rfl | rfl) <;> rfl
abbrev tyS (cI cS cL : ClassId) : List (ClassId × FieldType) := [(cI, .int), (cS, .object "ColophonHunt$Shelf")]
section GRows
variable {p : Program} {l : Launch} {e : Env} {R : Room} {s : State} {m : MethodId} {args : Array Value} {below : List Frame} {meth : Method} {c : Code} {cells slots : Nat} {Q : State → Prop}
variable {cc : ByteArray} {nL : Nat} {own : String} {Ts : List Cond} {D : va_G} {tys : List (ClassId × FieldType)} {A : Nat → Prop} {ws ws' : va_W} {lv lv' : List (Nat × Value)} {pc : Nat} {st : List Value}
/-- two links between nest mates, carried along -/
def xN (U : State) : Prop := va_Nw (.castable "java/lang/IllegalStateException" "java/lang/IllegalStateException") U ∧ va_Nw (.castable "java/lang/IllegalStateException" "java/lang/IllegalStateException") U
theorem xN.warm {s U : State} (hW : s.WarmedH U.vm) (h : xN s) : xN U := ⟨va_Nw.warmC hW h.1, va_Nw.warmC hW h.2⟩
/-- what stays through a method's run -/
def GC (p : Program) (s : State) (m : MethodId) (args : Array Value) (c : Code) (cc : ByteArray) (nL : Nat) (own : String) (Ts : List Cond) (D : va_G) (tys : List (ClassId × FieldType)) (A : Nat → Prop) : Prop :=
  p.tables.exec = Jvm.exec ∧ c.code = cc ∧ c.maxLocals = nL ∧ s.vm.findClass own = some m.cls ∧ (∀ w ∈ Ts, w.before args s = true) ∧ va_K D vwCl tys s ∧ (∀ q : Nat, s.heap.size ≤ q → A q) ∧ xN s
/-- from any heap that holds the world ws, with the locals lv, at pc with the stack st -/
def GG (p : Program) (l : Launch) (e : Env) (R : Room) (s : State) (m : MethodId) (args : Array Value) (below : List Frame) (meth : Method) (c : Code) (cells slots : Nat) (Q : State → Prop) (nL : Nat) (D : va_G) (A : Nat → Prop) (ws : va_W) (lv : List (Nat × Value)) (pc : Nat) (st : List Value) : Prop :=
  ∀ (H : Heap) (locs : List Loc) (ls : Array Slot), va_P D vwCl ws H → va_D A ws → va_S A s.heap H locs → lv_has ls nL lv → W p l e R s m args below meth c H locs cells slots Q (F0 m pc ls st)
theorem g_lv (is : List Nat) (hl : lv_pick lv is = lv') (kk : GG p l e R s m args below meth c cells slots Q nL D A ws lv' pc st) : GG p l e R s m args below meth c cells slots Q nL D A ws lv pc st := fun H locs ls hP hD hS h => kk H locs ls hP hD hS (lv_sub h is hl)
theorem g_iconst (X : GC p s m args c cc nL own Ts D tys A) {n : Int} {v : Int32} (hdg : decode cc pc = .ok (.iconst n, 1)) (hv : Int32.ofInt n = v) (kk : GG p l e R s m args below meth c cells slots Q nL D A ws lv (pc + 1) (.int v :: st)) : GG p l e R s m args below meth c cells slots Q nL D A ws lv pc st := fun H locs ls hP hD hS h => lv_iconst X.1 X.2.1 hdg hv (kk H locs ls hP hD hS h)
theorem g_bipush (X : GC p s m args c cc nL own Ts D tys A) {n : Int} {v : Int32} (hdg : decode cc pc = .ok (.bipush n, 2)) (hv : (Int8.ofInt n).toInt32 = v) (kk : GG p l e R s m args below meth c cells slots Q nL D A ws lv (pc + 2) (.int v :: st)) : GG p l e R s m args below meth c cells slots Q nL D A ws lv pc st := fun H locs ls hP hD hS h => lv_bipush X.1 X.2.1 hdg hv (kk H locs ls hP hD hS h)
theorem g_sipush (X : GC p s m args c cc nL own Ts D tys A) {n : Int} {v : Int32} (hdg : decode cc pc = .ok (.sipush n, 3)) (hv : (Int16.ofInt n).toInt32 = v) (kk : GG p l e R s m args below meth c cells slots Q nL D A ws lv (pc + 3) (.int v :: st)) : GG p l e R s m args below meth c cells slots Q nL D A ws lv pc st := fun H locs ls hP hD hS h => lv_sipush X.1 X.2.1 hdg hv (kk H locs ls hP hD hS h)
theorem g_ldc (X : GC p s m args c cc nL own Ts D tys A) {index : Nat} {v : Int32} (hc : Jvm.Cond.constant own index v ∈ Ts) (hdg : decode cc pc = .ok (.ldc index, 2)) (kk : GG p l e R s m args below meth c cells slots Q nL D A ws lv (pc + 2) (.int v :: st)) : GG p l e R s m args below meth c cells slots Q nL D A ws lv pc st := fun H locs ls hP hD hS h => lv_ldc X.1 X.2.1 X.2.2.2.1 (X.2.2.2.2.1 _ hc) hdg (kk H locs ls hP hD hS h)
theorem g_ldcw (X : GC p s m args c cc nL own Ts D tys A) {index : Nat} {v : Int32} (hc : Jvm.Cond.constant own index v ∈ Ts) (hdg : decode cc pc = .ok (.ldc_w index, 3)) (kk : GG p l e R s m args below meth c cells slots Q nL D A ws lv (pc + 3) (.int v :: st)) : GG p l e R s m args below meth c cells slots Q nL D A ws lv pc st := fun H locs ls hP hD hS h => lv_ldcw X.1 X.2.1 X.2.2.2.1 (X.2.2.2.2.1 _ hc) hdg (kk H locs ls hP hD hS h)
theorem g_ldc2 (X : GC p s m args c cc nL own Ts D tys A) {index : Nat} {v : Int64} (hc : Jvm.Cond.constantLong own index v ∈ Ts) (hdg : decode cc pc = .ok (.ldc2_w index, 3)) (kk : GG p l e R s m args below meth c cells slots Q nL D A ws lv (pc + 3) (.long v :: st)) : GG p l e R s m args below meth c cells slots Q nL D A ws lv pc st := fun H locs ls hP hD hS h => lv_ldc2 X.1 X.2.1 X.2.2.2.1 (X.2.2.2.2.1 _ hc) hdg (kk H locs ls hP hD hS h)
theorem g_ldc2d (X : GC p s m args c cc nL own Ts D tys A) {index : Nat} {v : UInt64} (hc : Jvm.Cond.constantDouble own index v ∈ Ts) (hdg : decode cc pc = .ok (.ldc2_w index, 3)) (kk : GG p l e R s m args below meth c cells slots Q nL D A ws lv (pc + 3) (.double v :: st)) : GG p l e R s m args below meth c cells slots Q nL D A ws lv pc st := fun H locs ls hP hD hS h => lv_ldc2d X.1 X.2.1 X.2.2.2.1 (X.2.2.2.2.1 _ hc) hdg (kk H locs ls hP hD hS h)
theorem g_lconst (X : GC p s m args c cc nL own Ts D tys A) {n : Fin 2} {v : Int64} (hdg : decode cc pc = .ok (.lconst n, 1)) (hv : Int64.ofNat (n : Nat) = v) (kk : GG p l e R s m args below meth c cells slots Q nL D A ws lv (pc + 1) (.long v :: st)) : GG p l e R s m args below meth c cells slots Q nL D A ws lv pc st := fun H locs ls hP hD hS h => lv_lconst X.1 X.2.1 hdg hv (kk H locs ls hP hD hS h)
theorem g_dconst0 (X : GC p s m args c cc nL own Ts D tys A) (hdg : decode cc pc = .ok (.dconst 0, 1)) (kk : GG p l e R s m args below meth c cells slots Q nL D A ws lv (pc + 1) (.double FP.dconst0 :: st)) : GG p l e R s m args below meth c cells slots Q nL D A ws lv pc st := fun H locs ls hP hD hS h => lv_dconst0 X.1 X.2.1 hdg (kk H locs ls hP hD hS h)
theorem g_dconst1 (X : GC p s m args c cc nL own Ts D tys A) (hdg : decode cc pc = .ok (.dconst 1, 1)) (kk : GG p l e R s m args below meth c cells slots Q nL D A ws lv (pc + 1) (.double FP.dconst1 :: st)) : GG p l e R s m args below meth c cells slots Q nL D A ws lv pc st := fun H locs ls hP hD hS h => lv_dconst1 X.1 X.2.1 hdg (kk H locs ls hP hD hS h)
theorem g_iload_n (X : GC p s m args c cc nL own Ts D tys A) {k : Fin 4} {j : Nat} {x : Int32} (hdg : decode cc pc = .ok (.iload_n k, 1)) (hj : lv[j]? = some ((k : Nat), .int x)) (kk : GG p l e R s m args below meth c cells slots Q nL D A ws lv (pc + 1) (.int x :: st)) : GG p l e R s m args below meth c cells slots Q nL D A ws lv pc st := fun H locs ls hP hD hS h => lv_iload_n X.1 X.2.1 hdg rfl (lv_at h j hj) (kk H locs ls hP hD hS h)
theorem g_iload (X : GC p s m args c cc nL own Ts D tys A) {i j : Nat} {x : Int32} (hdg : decode cc pc = .ok (.iload i, 2)) (hj : lv[j]? = some (i, .int x)) (kk : GG p l e R s m args below meth c cells slots Q nL D A ws lv (pc + 2) (.int x :: st)) : GG p l e R s m args below meth c cells slots Q nL D A ws lv pc st := fun H locs ls hP hD hS h => lv_iload X.1 X.2.1 hdg (lv_at h j hj) (kk H locs ls hP hD hS h)
theorem g_lload_n (X : GC p s m args c cc nL own Ts D tys A) {k : Fin 4} {j : Nat} {x : Int64} (hdg : decode cc pc = .ok (.lload_n k, 1)) (hj : lv[j]? = some ((k : Nat), .long x)) (kk : GG p l e R s m args below meth c cells slots Q nL D A ws lv (pc + 1) (.long x :: st)) : GG p l e R s m args below meth c cells slots Q nL D A ws lv pc st := fun H locs ls hP hD hS h => lv_lload_n X.1 X.2.1 hdg rfl (lv_at h j hj) (kk H locs ls hP hD hS h)
theorem g_lload (X : GC p s m args c cc nL own Ts D tys A) {i j : Nat} {x : Int64} (hdg : decode cc pc = .ok (.lload i, 2)) (hj : lv[j]? = some (i, .long x)) (kk : GG p l e R s m args below meth c cells slots Q nL D A ws lv (pc + 2) (.long x :: st)) : GG p l e R s m args below meth c cells slots Q nL D A ws lv pc st := fun H locs ls hP hD hS h => lv_lload X.1 X.2.1 hdg (lv_at h j hj) (kk H locs ls hP hD hS h)
theorem g_dload_n (X : GC p s m args c cc nL own Ts D tys A) {k : Fin 4} {j : Nat} {x : UInt64} (hdg : decode cc pc = .ok (.dload_n k, 1)) (hj : lv[j]? = some ((k : Nat), .double x)) (kk : GG p l e R s m args below meth c cells slots Q nL D A ws lv (pc + 1) (.double x :: st)) : GG p l e R s m args below meth c cells slots Q nL D A ws lv pc st := fun H locs ls hP hD hS h => lv_dload_n X.1 X.2.1 hdg rfl (lv_at h j hj) (kk H locs ls hP hD hS h)
theorem g_dload (X : GC p s m args c cc nL own Ts D tys A) {i j : Nat} {x : UInt64} (hdg : decode cc pc = .ok (.dload i, 2)) (hj : lv[j]? = some (i, .double x)) (kk : GG p l e R s m args below meth c cells slots Q nL D A ws lv (pc + 2) (.double x :: st)) : GG p l e R s m args below meth c cells slots Q nL D A ws lv pc st := fun H locs ls hP hD hS h => lv_dload X.1 X.2.1 hdg (lv_at h j hj) (kk H locs ls hP hD hS h)
theorem g_aload_n (X : GC p s m args c cc nL own Ts D tys A) {k : Fin 4} {j : Nat} {x : Nat} (hdg : decode cc pc = .ok (.aload_n k, 1)) (hj : lv[j]? = some ((k : Nat), .ref x)) (kk : GG p l e R s m args below meth c cells slots Q nL D A ws lv (pc + 1) (.ref x :: st)) : GG p l e R s m args below meth c cells slots Q nL D A ws lv pc st := fun H locs ls hP hD hS h => lv_aload_n X.1 X.2.1 hdg rfl (lv_at h j hj) (kk H locs ls hP hD hS h)
theorem g_aload (X : GC p s m args c cc nL own Ts D tys A) {i j : Nat} {x : Nat} (hdg : decode cc pc = .ok (.aload i, 2)) (hj : lv[j]? = some (i, .ref x)) (kk : GG p l e R s m args below meth c cells slots Q nL D A ws lv (pc + 2) (.ref x :: st)) : GG p l e R s m args below meth c cells slots Q nL D A ws lv pc st := fun H locs ls hP hD hS h => lv_aload X.1 X.2.1 hdg (lv_at h j hj) (kk H locs ls hP hD hS h)
theorem g_istore_n (X : GC p s m args c cc nL own Ts D tys A) {k : Fin 4} {i : Nat} {x : Int32} (hdg : decode cc pc = .ok (.istore_n k, 1)) (hi : (k : Nat) = i) (hn : i < nL) (hl : (i, Value.int x) :: lv.filter (fun q => !(q.1 == i) && !(q.1 + 1 == i && q.2.category == 2)) = lv') (kk : GG p l e R s m args below meth c cells slots Q nL D A ws lv' (pc + 1) st) : GG p l e R s m args below meth c cells slots Q nL D A ws lv pc (.int x :: st) := fun H locs ls hP hD hS h => lv_istore_n X.1 X.2.1 hdg hi h hn hl (fun ls' h' => kk H locs ls' hP hD hS h')
theorem g_istore (X : GC p s m args c cc nL own Ts D tys A) {i : Nat} {x : Int32} (hdg : decode cc pc = .ok (.istore i, 2)) (hn : i < nL) (hl : (i, Value.int x) :: lv.filter (fun q => !(q.1 == i) && !(q.1 + 1 == i && q.2.category == 2)) = lv') (kk : GG p l e R s m args below meth c cells slots Q nL D A ws lv' (pc + 2) st) : GG p l e R s m args below meth c cells slots Q nL D A ws lv pc (.int x :: st) := fun H locs ls hP hD hS h => lv_istore X.1 X.2.1 hdg h hn hl (fun ls' h' => kk H locs ls' hP hD hS h')
theorem g_lstore_n (X : GC p s m args c cc nL own Ts D tys A) {k : Fin 4} {i : Nat} {x : Int64} (hdg : decode cc pc = .ok (.lstore_n k, 1)) (hi : (k : Nat) = i) (hn : i + 1 < nL) (hl : (i, Value.long x) :: lv.filter (fun q => !(q.1 == i) && (!(q.1 == i + 1) && !(q.1 + 1 == i && q.2.category == 2))) = lv') (kk : GG p l e R s m args below meth c cells slots Q nL D A ws lv' (pc + 1) st) : GG p l e R s m args below meth c cells slots Q nL D A ws lv pc (.long x :: st) := fun H locs ls hP hD hS h => lv_lstore_n X.1 X.2.1 hdg hi h hn hl (fun ls' h' => kk H locs ls' hP hD hS h')
theorem g_lstore (X : GC p s m args c cc nL own Ts D tys A) {i : Nat} {x : Int64} (hdg : decode cc pc = .ok (.lstore i, 2)) (hn : i + 1 < nL) (hl : (i, Value.long x) :: lv.filter (fun q => !(q.1 == i) && (!(q.1 == i + 1) && !(q.1 + 1 == i && q.2.category == 2))) = lv') (kk : GG p l e R s m args below meth c cells slots Q nL D A ws lv' (pc + 2) st) : GG p l e R s m args below meth c cells slots Q nL D A ws lv pc (.long x :: st) := fun H locs ls hP hD hS h => lv_lstore X.1 X.2.1 hdg h hn hl (fun ls' h' => kk H locs ls' hP hD hS h')
theorem g_dstore_n (X : GC p s m args c cc nL own Ts D tys A) {k : Fin 4} {i : Nat} {x : UInt64} (hdg : decode cc pc = .ok (.dstore_n k, 1)) (hi : (k : Nat) = i) (hn : i + 1 < nL) (hl : (i, Value.double x) :: lv.filter (fun q => !(q.1 == i) && (!(q.1 == i + 1) && !(q.1 + 1 == i && q.2.category == 2))) = lv') (kk : GG p l e R s m args below meth c cells slots Q nL D A ws lv' (pc + 1) st) : GG p l e R s m args below meth c cells slots Q nL D A ws lv pc (.double x :: st) := fun H locs ls hP hD hS h => lv_dstore_n X.1 X.2.1 hdg hi h hn hl (fun ls' h' => kk H locs ls' hP hD hS h')
theorem g_dstore (X : GC p s m args c cc nL own Ts D tys A) {i : Nat} {x : UInt64} (hdg : decode cc pc = .ok (.dstore i, 2)) (hn : i + 1 < nL) (hl : (i, Value.double x) :: lv.filter (fun q => !(q.1 == i) && (!(q.1 == i + 1) && !(q.1 + 1 == i && q.2.category == 2))) = lv') (kk : GG p l e R s m args below meth c cells slots Q nL D A ws lv' (pc + 2) st) : GG p l e R s m args below meth c cells slots Q nL D A ws lv pc (.double x :: st) := fun H locs ls hP hD hS h => lv_dstore X.1 X.2.1 hdg h hn hl (fun ls' h' => kk H locs ls' hP hD hS h')
theorem g_astore_n (X : GC p s m args c cc nL own Ts D tys A) {k : Fin 4} {i : Nat} {x : Nat} (hdg : decode cc pc = .ok (.astore_n k, 1)) (hi : (k : Nat) = i) (hn : i < nL) (hl : (i, Value.ref x) :: lv.filter (fun q => !(q.1 == i) && !(q.1 + 1 == i && q.2.category == 2)) = lv') (kk : GG p l e R s m args below meth c cells slots Q nL D A ws lv' (pc + 1) st) : GG p l e R s m args below meth c cells slots Q nL D A ws lv pc (.ref x :: st) := fun H locs ls hP hD hS h => lv_astore_n X.1 X.2.1 hdg hi h hn hl (fun ls' h' => kk H locs ls' hP hD hS h')
theorem g_astore (X : GC p s m args c cc nL own Ts D tys A) {i : Nat} {x : Nat} (hdg : decode cc pc = .ok (.astore i, 2)) (hn : i < nL) (hl : (i, Value.ref x) :: lv.filter (fun q => !(q.1 == i) && !(q.1 + 1 == i && q.2.category == 2)) = lv') (kk : GG p l e R s m args below meth c cells slots Q nL D A ws lv' (pc + 2) st) : GG p l e R s m args below meth c cells slots Q nL D A ws lv pc (.ref x :: st) := fun H locs ls hP hD hS h => lv_astore X.1 X.2.1 hdg h hn hl (fun ls' h' => kk H locs ls' hP hD hS h')
theorem g_iinc (X : GC p s m args c cc nL own Ts D tys A) {i j : Nat} {n : Int} {x : Int32} (v : Int32) (hdg : decode cc pc = .ok (.iinc i n, 3)) (hj : lv[j]? = some (i, .int x)) (hv : x + Int32.ofInt n = v) (hn : i < nL) (hl : (i, Value.int v) :: lv.filter (fun q => !(q.1 == i) && !(q.1 + 1 == i && q.2.category == 2)) = lv') (kk : GG p l e R s m args below meth c cells slots Q nL D A ws lv' (pc + 3) st) : GG p l e R s m args below meth c cells slots Q nL D A ws lv pc st := fun H locs ls hP hD hS h => lv_iinc X.1 X.2.1 hdg h hj hv hn hl (fun ls' h' => kk H locs ls' hP hD hS h')
theorem g_iadd (X : GC p s m args c cc nL own Ts D tys A) {x y : Int32} (hdg : decode cc pc = .ok (.iadd, 1)) (kk : GG p l e R s m args below meth c cells slots Q nL D A ws lv (pc + 1) (.int (x + y) :: st)) : GG p l e R s m args below meth c cells slots Q nL D A ws lv pc (.int y :: .int x :: st) := fun H locs ls hP hD hS h => lv_iadd X.1 X.2.1 hdg (kk H locs ls hP hD hS h)
theorem g_isub (X : GC p s m args c cc nL own Ts D tys A) {x y : Int32} (hdg : decode cc pc = .ok (.isub, 1)) (kk : GG p l e R s m args below meth c cells slots Q nL D A ws lv (pc + 1) (.int (x - y) :: st)) : GG p l e R s m args below meth c cells slots Q nL D A ws lv pc (.int y :: .int x :: st) := fun H locs ls hP hD hS h => lv_isub X.1 X.2.1 hdg (kk H locs ls hP hD hS h)
theorem g_imul (X : GC p s m args c cc nL own Ts D tys A) {x y : Int32} (hdg : decode cc pc = .ok (.imul, 1)) (kk : GG p l e R s m args below meth c cells slots Q nL D A ws lv (pc + 1) (.int (x * y) :: st)) : GG p l e R s m args below meth c cells slots Q nL D A ws lv pc (.int y :: .int x :: st) := fun H locs ls hP hD hS h => lv_imul X.1 X.2.1 hdg (kk H locs ls hP hD hS h)
theorem g_iand (X : GC p s m args c cc nL own Ts D tys A) {x y : Int32} (hdg : decode cc pc = .ok (.iand, 1)) (kk : GG p l e R s m args below meth c cells slots Q nL D A ws lv (pc + 1) (.int (x &&& y) :: st)) : GG p l e R s m args below meth c cells slots Q nL D A ws lv pc (.int y :: .int x :: st) := fun H locs ls hP hD hS h => lv_iand X.1 X.2.1 hdg (kk H locs ls hP hD hS h)
theorem g_ior (X : GC p s m args c cc nL own Ts D tys A) {x y : Int32} (hdg : decode cc pc = .ok (.ior, 1)) (kk : GG p l e R s m args below meth c cells slots Q nL D A ws lv (pc + 1) (.int (x ||| y) :: st)) : GG p l e R s m args below meth c cells slots Q nL D A ws lv pc (.int y :: .int x :: st) := fun H locs ls hP hD hS h => lv_ior X.1 X.2.1 hdg (kk H locs ls hP hD hS h)
theorem g_ixor (X : GC p s m args c cc nL own Ts D tys A) {x y : Int32} (hdg : decode cc pc = .ok (.ixor, 1)) (kk : GG p l e R s m args below meth c cells slots Q nL D A ws lv (pc + 1) (.int (x ^^^ y) :: st)) : GG p l e R s m args below meth c cells slots Q nL D A ws lv pc (.int y :: .int x :: st) := fun H locs ls hP hD hS h => lv_ixor X.1 X.2.1 hdg (kk H locs ls hP hD hS h)
theorem g_ishl (X : GC p s m args c cc nL own Ts D tys A) {x y : Int32} (hdg : decode cc pc = .ok (.ishl, 1)) (kk : GG p l e R s m args below meth c cells slots Q nL D A ws lv (pc + 1) (.int (x <<< (y &&& 31)) :: st)) : GG p l e R s m args below meth c cells slots Q nL D A ws lv pc (.int y :: .int x :: st) := fun H locs ls hP hD hS h => lv_ishl X.1 X.2.1 hdg (kk H locs ls hP hD hS h)
theorem g_ishr (X : GC p s m args c cc nL own Ts D tys A) {x y : Int32} (hdg : decode cc pc = .ok (.ishr, 1)) (kk : GG p l e R s m args below meth c cells slots Q nL D A ws lv (pc + 1) (.int (x >>> (y &&& 31)) :: st)) : GG p l e R s m args below meth c cells slots Q nL D A ws lv pc (.int y :: .int x :: st) := fun H locs ls hP hD hS h => lv_ishr X.1 X.2.1 hdg (kk H locs ls hP hD hS h)
theorem g_ladd (X : GC p s m args c cc nL own Ts D tys A) {x y : Int64} (hdg : decode cc pc = .ok (.ladd, 1)) (kk : GG p l e R s m args below meth c cells slots Q nL D A ws lv (pc + 1) (.long (x + y) :: st)) : GG p l e R s m args below meth c cells slots Q nL D A ws lv pc (.long y :: .long x :: st) := fun H locs ls hP hD hS h => lv_ladd X.1 X.2.1 hdg (kk H locs ls hP hD hS h)
theorem g_lsub (X : GC p s m args c cc nL own Ts D tys A) {x y : Int64} (hdg : decode cc pc = .ok (.lsub, 1)) (kk : GG p l e R s m args below meth c cells slots Q nL D A ws lv (pc + 1) (.long (x - y) :: st)) : GG p l e R s m args below meth c cells slots Q nL D A ws lv pc (.long y :: .long x :: st) := fun H locs ls hP hD hS h => lv_lsub X.1 X.2.1 hdg (kk H locs ls hP hD hS h)
theorem g_lmul (X : GC p s m args c cc nL own Ts D tys A) {x y : Int64} (hdg : decode cc pc = .ok (.lmul, 1)) (kk : GG p l e R s m args below meth c cells slots Q nL D A ws lv (pc + 1) (.long (x * y) :: st)) : GG p l e R s m args below meth c cells slots Q nL D A ws lv pc (.long y :: .long x :: st) := fun H locs ls hP hD hS h => lv_lmul X.1 X.2.1 hdg (kk H locs ls hP hD hS h)
theorem g_lor (X : GC p s m args c cc nL own Ts D tys A) {x y : Int64} (hdg : decode cc pc = .ok (.lor, 1)) (kk : GG p l e R s m args below meth c cells slots Q nL D A ws lv (pc + 1) (.long (x ||| y) :: st)) : GG p l e R s m args below meth c cells slots Q nL D A ws lv pc (.long y :: .long x :: st) := fun H locs ls hP hD hS h => lv_lor X.1 X.2.1 hdg (kk H locs ls hP hD hS h)
theorem g_lshl (X : GC p s m args c cc nL own Ts D tys A) {x v : Int64} {y : Int32} (hdg : decode cc pc = .ok (.lshl, 1)) (hv : x <<< (y.toInt64 &&& 63) = v) (kk : GG p l e R s m args below meth c cells slots Q nL D A ws lv (pc + 1) (.long v :: st)) : GG p l e R s m args below meth c cells slots Q nL D A ws lv pc (.int y :: .long x :: st) := fun H locs ls hP hD hS h => lv_lshl X.1 X.2.1 hdg hv (kk H locs ls hP hD hS h)
theorem g_iushr (X : GC p s m args c cc nL own Ts D tys A) {x y v : Int32} (hdg : decode cc pc = .ok (.iushr, 1)) (hv : (x.toUInt32 >>> (y.toUInt32 &&& Int32.toUInt32 31)).toInt32 = v) (kk : GG p l e R s m args below meth c cells slots Q nL D A ws lv (pc + 1) (.int v :: st)) : GG p l e R s m args below meth c cells slots Q nL D A ws lv pc (.int y :: .int x :: st) := fun H locs ls hP hD hS h => lv_iushr X.1 X.2.1 hdg hv (kk H locs ls hP hD hS h)
theorem g_i2l (X : GC p s m args c cc nL own Ts D tys A) {x : Int32} (hdg : decode cc pc = .ok (.i2l, 1)) (kk : GG p l e R s m args below meth c cells slots Q nL D A ws lv (pc + 1) (.long x.toInt64 :: st)) : GG p l e R s m args below meth c cells slots Q nL D A ws lv pc (.int x :: st) := fun H locs ls hP hD hS h => lv_i2l X.1 X.2.1 hdg rfl (kk H locs ls hP hD hS h)
theorem g_i2d (X : GC p s m args c cc nL own Ts D tys A) {x : Int32} (hdg : decode cc pc = .ok (.i2d, 1)) (kk : GG p l e R s m args below meth c cells slots Q nL D A ws lv (pc + 1) (.double (FP.i2d x) :: st)) : GG p l e R s m args below meth c cells slots Q nL D A ws lv pc (.int x :: st) := fun H locs ls hP hD hS h => lv_i2d X.1 X.2.1 hdg (kk H locs ls hP hD hS h)
theorem g_l2d (X : GC p s m args c cc nL own Ts D tys A) {x : Int64} (hdg : decode cc pc = .ok (.l2d, 1)) (kk : GG p l e R s m args below meth c cells slots Q nL D A ws lv (pc + 1) (.double (FP.l2d x) :: st)) : GG p l e R s m args below meth c cells slots Q nL D A ws lv pc (.long x :: st) := fun H locs ls hP hD hS h => lv_l2d X.1 X.2.1 hdg (kk H locs ls hP hD hS h)
theorem g_d2l (X : GC p s m args c cc nL own Ts D tys A) {x : UInt64} (hdg : decode cc pc = .ok (.d2l, 1)) (kk : GG p l e R s m args below meth c cells slots Q nL D A ws lv (pc + 1) (.long (FP.d2l x) :: st)) : GG p l e R s m args below meth c cells slots Q nL D A ws lv pc (.double x :: st) := fun H locs ls hP hD hS h => lv_d2l X.1 X.2.1 hdg (kk H locs ls hP hD hS h)
theorem g_dcmp (X : GC p s m args c cc nL own Ts D tys A) {x y : UInt64} {op : CmpOp} (hdg : decode cc pc = .ok (.dcmp op, 1)) (kk : GG p l e R s m args below meth c cells slots Q nL D A ws lv (pc + 1) (.int (Op.cmpValue (FP.dcmp x y) op) :: st)) : GG p l e R s m args below meth c cells slots Q nL D A ws lv pc (.double y :: .double x :: st) := fun H locs ls hP hD hS h => lv_dcmp X.1 X.2.1 hdg (kk H locs ls hP hD hS h)
theorem g_lcmp (X : GC p s m args c cc nL own Ts D tys A) {x y : Int64} (hdg : decode cc pc = .ok (.lcmp, 1)) (kk : GG p l e R s m args below meth c cells slots Q nL D A ws lv (pc + 1) (.int (lg_cmp x y) :: st)) : GG p l e R s m args below meth c cells slots Q nL D A ws lv pc (.long y :: .long x :: st) := fun H locs ls hP hD hS h => W.lcmp X.1 X.2.1 hdg (kk H locs ls hP hD hS h)
theorem g_ddiv {α : Type} {k : UInt64 → Option α} {r : α} (X : GC p s m args c cc nL own Ts D tys A) {x y : UInt64} (h : gN (FP.ddiv x y) k = some r) (hdg : decode cc pc = .ok (.ddiv, 1)) (kk : k (FP.ddiv x y) = some r → GG p l e R s m args below meth c cells slots Q nL D A ws lv (pc + 1) (.double (FP.ddiv x y) :: st)) : GG p l e R s m args below meth c cells slots Q nL D A ws lv pc (.double y :: .double x :: st) := fun H locs ls hP hD hS hl => lv_ddiv X.1 X.2.1 hdg (gN_e h).1 (kk (gN_e h).2 H locs ls hP hD hS hl)
theorem g_dmul {α : Type} {k : UInt64 → Option α} {r : α} (X : GC p s m args c cc nL own Ts D tys A) {x y : UInt64} (h : gN (FP.dmul x y) k = some r) (hdg : decode cc pc = .ok (.dmul, 1)) (kk : k (FP.dmul x y) = some r → GG p l e R s m args below meth c cells slots Q nL D A ws lv (pc + 1) (.double (FP.dmul x y) :: st)) : GG p l e R s m args below meth c cells slots Q nL D A ws lv pc (.double y :: .double x :: st) := fun H locs ls hP hD hS hl => lv_dmul X.1 X.2.1 hdg (gN_e h).1 (kk (gN_e h).2 H locs ls hP hD hS hl)
theorem g_dsub {α : Type} {k : UInt64 → Option α} {r : α} (X : GC p s m args c cc nL own Ts D tys A) {x y : UInt64} (h : gN (FP.dsub x y) k = some r) (hdg : decode cc pc = .ok (.dsub, 1)) (kk : k (FP.dsub x y) = some r → GG p l e R s m args below meth c cells slots Q nL D A ws lv (pc + 1) (.double (FP.dsub x y) :: st)) : GG p l e R s m args below meth c cells slots Q nL D A ws lv pc (.double y :: .double x :: st) := fun H locs ls hP hD hS hl => lv_dsub X.1 X.2.1 hdg (gN_e h).1 (kk (gN_e h).2 H locs ls hP hD hS hl)
theorem g_idiv {α : Type} {k : Option α} {r : α} (X : GC p s m args c cc nL own Ts D tys A) {x y : Int32} (h : gZ y k = some r) (hdg : decode cc pc = .ok (.idiv, 1)) (kk : k = some r → GG p l e R s m args below meth c cells slots Q nL D A ws lv (pc + 1) (.int (x / y) :: st)) : GG p l e R s m args below meth c cells slots Q nL D A ws lv pc (.int y :: .int x :: st) := fun H locs ls hP hD hS hl => lv_idiv X.1 X.2.1 hdg (gZ_e h).1 (kk (gZ_e h).2 H locs ls hP hD hS hl)
theorem g_irem {α : Type} {k : Option α} {r : α} (X : GC p s m args c cc nL own Ts D tys A) {x y : Int32} (h : gZ y k = some r) (hdg : decode cc pc = .ok (.irem, 1)) (kk : k = some r → GG p l e R s m args below meth c cells slots Q nL D A ws lv (pc + 1) (.int (x - x / y * y) :: st)) : GG p l e R s m args below meth c cells slots Q nL D A ws lv pc (.int y :: .int x :: st) := fun H locs ls hP hD hS hl => lv_irem X.1 X.2.1 hdg (gZ_e h).1 (kk (gZ_e h).2 H locs ls hP hD hS hl)
theorem g_dup (X : GC p s m args c cc nL own Ts D tys A) {v : Value} (hdg : decode cc pc = .ok (.dup, 1)) (hv : v.category = 1) (kk : GG p l e R s m args below meth c cells slots Q nL D A ws lv (pc + 1) (v :: v :: st)) : GG p l e R s m args below meth c cells slots Q nL D A ws lv pc (v :: st) := fun H locs ls hP hD hS h => lv_dup X.1 X.2.1 hdg hv (kk H locs ls hP hD hS h)
theorem g_pop (X : GC p s m args c cc nL own Ts D tys A) {v : Value} (hdg : decode cc pc = .ok (.pop, 1)) (hv : v.category = 1) (kk : GG p l e R s m args below meth c cells slots Q nL D A ws lv (pc + 1) st) : GG p l e R s m args below meth c cells slots Q nL D A ws lv pc (v :: st) := fun H locs ls hP hD hS h => lv_pop X.1 X.2.1 hdg hv (kk H locs ls hP hD hS h)
theorem g_dup2 (X : GC p s m args c cc nL own Ts D tys A) {va vb : Value} (hdg : decode cc pc = .ok (.dup2, 1)) (hva : va.category = 1) (hvb : vb.category = 1) (kk : GG p l e R s m args below meth c cells slots Q nL D A ws lv (pc + 1) (va :: vb :: va :: vb :: st)) : GG p l e R s m args below meth c cells slots Q nL D A ws lv pc (va :: vb :: st) := fun H locs ls hP hD hS h => lv_dup2_11 X.1 X.2.1 hdg hva hvb (kk H locs ls hP hD hS h)
theorem g_goto (X : GC p s m args c cc nL own Ts D tys A) {off : Int} {tgt : Nat} (hdg : decode cc pc = .ok (.goto off, 3)) (ht : (pc : Int) + off = (tgt : Int)) (kk : GG p l e R s m args below meth c cells slots Q nL D A ws lv tgt st) : GG p l e R s m args below meth c cells slots Q nL D A ws lv pc st := fun H locs ls hP hD hS h => lv_goto X.1 X.2.1 hdg ht (kk H locs ls hP hD hS h)
theorem g_icmp_eq {α : Type} {x1 y1 : Option α} {r : α} (X : GC p s m args c cc nL own Ts D tys A) {x y : Int32} {off : Int} {tgt : Nat} (h : (if x = y then x1 else y1) = some r) (hdg : decode cc pc = .ok (.if_icmp .eq off, 3)) (ht : (pc : Int) + off = (tgt : Int)) (kt : x1 = some r → GG p l e R s m args below meth c cells slots Q nL D A ws lv tgt st) (kf : y1 = some r → GG p l e R s m args below meth c cells slots Q nL D A ws lv (pc + 3) st) : GG p l e R s m args below meth c cells slots Q nL D A ws lv pc (.int y :: .int x :: st) := fun H locs ls hP hD hS hl => lv_icmp_eq X.1 X.2.1 hdg ht (fun q => kt (if_t h q) H locs ls hP hD hS hl) (fun q => kf (if_f h q) H locs ls hP hD hS hl)
theorem g_if_eq {α : Type} {x1 y1 : Option α} {r : α} (X : GC p s m args c cc nL own Ts D tys A) {x : Int32} {off : Int} {tgt : Nat} (h : (if x = 0 then x1 else y1) = some r) (hdg : decode cc pc = .ok (.ifCond .eq off, 3)) (ht : (pc : Int) + off = (tgt : Int)) (kt : x1 = some r → GG p l e R s m args below meth c cells slots Q nL D A ws lv tgt st) (kf : y1 = some r → GG p l e R s m args below meth c cells slots Q nL D A ws lv (pc + 3) st) : GG p l e R s m args below meth c cells slots Q nL D A ws lv pc (.int x :: st) := fun H locs ls hP hD hS hl => lv_if_eq X.1 X.2.1 hdg ht (fun q => kt (if_t h q) H locs ls hP hD hS hl) (fun q => kf (if_f h q) H locs ls hP hD hS hl)
theorem g_icmp_ne {α : Type} {x1 y1 : Option α} {r : α} (X : GC p s m args c cc nL own Ts D tys A) {x y : Int32} {off : Int} {tgt : Nat} (h : (if x = y then x1 else y1) = some r) (hdg : decode cc pc = .ok (.if_icmp .ne off, 3)) (ht : (pc : Int) + off = (tgt : Int)) (kt : y1 = some r → GG p l e R s m args below meth c cells slots Q nL D A ws lv tgt st) (kf : x1 = some r → GG p l e R s m args below meth c cells slots Q nL D A ws lv (pc + 3) st) : GG p l e R s m args below meth c cells slots Q nL D A ws lv pc (.int y :: .int x :: st) := fun H locs ls hP hD hS hl => lv_icmp_ne X.1 X.2.1 hdg ht (fun q => kt (if_f h q) H locs ls hP hD hS hl) (fun q => kf (if_t h q) H locs ls hP hD hS hl)
theorem g_if_ne {α : Type} {x1 y1 : Option α} {r : α} (X : GC p s m args c cc nL own Ts D tys A) {x : Int32} {off : Int} {tgt : Nat} (h : (if x = 0 then x1 else y1) = some r) (hdg : decode cc pc = .ok (.ifCond .ne off, 3)) (ht : (pc : Int) + off = (tgt : Int)) (kt : y1 = some r → GG p l e R s m args below meth c cells slots Q nL D A ws lv tgt st) (kf : x1 = some r → GG p l e R s m args below meth c cells slots Q nL D A ws lv (pc + 3) st) : GG p l e R s m args below meth c cells slots Q nL D A ws lv pc (.int x :: st) := fun H locs ls hP hD hS hl => lv_if_ne X.1 X.2.1 hdg ht (fun q => kt (if_f h q) H locs ls hP hD hS hl) (fun q => kf (if_t h q) H locs ls hP hD hS hl)
theorem g_icmp_lt {α : Type} {x1 y1 : Option α} {r : α} (X : GC p s m args c cc nL own Ts D tys A) {x y : Int32} {off : Int} {tgt : Nat} (h : (if x < y then x1 else y1) = some r) (hdg : decode cc pc = .ok (.if_icmp .lt off, 3)) (ht : (pc : Int) + off = (tgt : Int)) (kt : x1 = some r → GG p l e R s m args below meth c cells slots Q nL D A ws lv tgt st) (kf : y1 = some r → GG p l e R s m args below meth c cells slots Q nL D A ws lv (pc + 3) st) : GG p l e R s m args below meth c cells slots Q nL D A ws lv pc (.int y :: .int x :: st) := fun H locs ls hP hD hS hl => lv_icmp_lt X.1 X.2.1 hdg ht (fun q => kt (if_t h q) H locs ls hP hD hS hl) (fun q => kf (if_f h q) H locs ls hP hD hS hl)
theorem g_if_lt {α : Type} {x1 y1 : Option α} {r : α} (X : GC p s m args c cc nL own Ts D tys A) {x : Int32} {off : Int} {tgt : Nat} (h : (if x < 0 then x1 else y1) = some r) (hdg : decode cc pc = .ok (.ifCond .lt off, 3)) (ht : (pc : Int) + off = (tgt : Int)) (kt : x1 = some r → GG p l e R s m args below meth c cells slots Q nL D A ws lv tgt st) (kf : y1 = some r → GG p l e R s m args below meth c cells slots Q nL D A ws lv (pc + 3) st) : GG p l e R s m args below meth c cells slots Q nL D A ws lv pc (.int x :: st) := fun H locs ls hP hD hS hl => lv_if_lt X.1 X.2.1 hdg ht (fun q => kt (if_t h q) H locs ls hP hD hS hl) (fun q => kf (if_f h q) H locs ls hP hD hS hl)
theorem g_icmp_ge {α : Type} {x1 y1 : Option α} {r : α} (X : GC p s m args c cc nL own Ts D tys A) {x y : Int32} {off : Int} {tgt : Nat} (h : (if y ≤ x then x1 else y1) = some r) (hdg : decode cc pc = .ok (.if_icmp .ge off, 3)) (ht : (pc : Int) + off = (tgt : Int)) (kt : x1 = some r → GG p l e R s m args below meth c cells slots Q nL D A ws lv tgt st) (kf : y1 = some r → GG p l e R s m args below meth c cells slots Q nL D A ws lv (pc + 3) st) : GG p l e R s m args below meth c cells slots Q nL D A ws lv pc (.int y :: .int x :: st) := fun H locs ls hP hD hS hl => lv_icmp_ge X.1 X.2.1 hdg ht (fun q => kt (if_t h q) H locs ls hP hD hS hl) (fun q => kf (if_f h q) H locs ls hP hD hS hl)
theorem g_if_ge {α : Type} {x1 y1 : Option α} {r : α} (X : GC p s m args c cc nL own Ts D tys A) {x : Int32} {off : Int} {tgt : Nat} (h : (if 0 ≤ x then x1 else y1) = some r) (hdg : decode cc pc = .ok (.ifCond .ge off, 3)) (ht : (pc : Int) + off = (tgt : Int)) (kt : x1 = some r → GG p l e R s m args below meth c cells slots Q nL D A ws lv tgt st) (kf : y1 = some r → GG p l e R s m args below meth c cells slots Q nL D A ws lv (pc + 3) st) : GG p l e R s m args below meth c cells slots Q nL D A ws lv pc (.int x :: st) := fun H locs ls hP hD hS hl => lv_if_ge X.1 X.2.1 hdg ht (fun q => kt (if_t h q) H locs ls hP hD hS hl) (fun q => kf (if_f h q) H locs ls hP hD hS hl)
theorem g_icmp_gt {α : Type} {x1 y1 : Option α} {r : α} (X : GC p s m args c cc nL own Ts D tys A) {x y : Int32} {off : Int} {tgt : Nat} (h : (if y < x then x1 else y1) = some r) (hdg : decode cc pc = .ok (.if_icmp .gt off, 3)) (ht : (pc : Int) + off = (tgt : Int)) (kt : x1 = some r → GG p l e R s m args below meth c cells slots Q nL D A ws lv tgt st) (kf : y1 = some r → GG p l e R s m args below meth c cells slots Q nL D A ws lv (pc + 3) st) : GG p l e R s m args below meth c cells slots Q nL D A ws lv pc (.int y :: .int x :: st) := fun H locs ls hP hD hS hl => lv_icmp_gt X.1 X.2.1 hdg ht (fun q => kt (if_t h q) H locs ls hP hD hS hl) (fun q => kf (if_f h q) H locs ls hP hD hS hl)
theorem g_if_gt {α : Type} {x1 y1 : Option α} {r : α} (X : GC p s m args c cc nL own Ts D tys A) {x : Int32} {off : Int} {tgt : Nat} (h : (if 0 < x then x1 else y1) = some r) (hdg : decode cc pc = .ok (.ifCond .gt off, 3)) (ht : (pc : Int) + off = (tgt : Int)) (kt : x1 = some r → GG p l e R s m args below meth c cells slots Q nL D A ws lv tgt st) (kf : y1 = some r → GG p l e R s m args below meth c cells slots Q nL D A ws lv (pc + 3) st) : GG p l e R s m args below meth c cells slots Q nL D A ws lv pc (.int x :: st) := fun H locs ls hP hD hS hl => lv_if_gt X.1 X.2.1 hdg ht (fun q => kt (if_t h q) H locs ls hP hD hS hl) (fun q => kf (if_f h q) H locs ls hP hD hS hl)
theorem g_icmp_le {α : Type} {x1 y1 : Option α} {r : α} (X : GC p s m args c cc nL own Ts D tys A) {x y : Int32} {off : Int} {tgt : Nat} (h : (if x ≤ y then x1 else y1) = some r) (hdg : decode cc pc = .ok (.if_icmp .le off, 3)) (ht : (pc : Int) + off = (tgt : Int)) (kt : x1 = some r → GG p l e R s m args below meth c cells slots Q nL D A ws lv tgt st) (kf : y1 = some r → GG p l e R s m args below meth c cells slots Q nL D A ws lv (pc + 3) st) : GG p l e R s m args below meth c cells slots Q nL D A ws lv pc (.int y :: .int x :: st) := fun H locs ls hP hD hS hl => lv_icmp_le X.1 X.2.1 hdg ht (fun q => kt (if_t h q) H locs ls hP hD hS hl) (fun q => kf (if_f h q) H locs ls hP hD hS hl)
theorem g_if_le {α : Type} {x1 y1 : Option α} {r : α} (X : GC p s m args c cc nL own Ts D tys A) {x : Int32} {off : Int} {tgt : Nat} (h : (if x ≤ 0 then x1 else y1) = some r) (hdg : decode cc pc = .ok (.ifCond .le off, 3)) (ht : (pc : Int) + off = (tgt : Int)) (kt : x1 = some r → GG p l e R s m args below meth c cells slots Q nL D A ws lv tgt st) (kf : y1 = some r → GG p l e R s m args below meth c cells slots Q nL D A ws lv (pc + 3) st) : GG p l e R s m args below meth c cells slots Q nL D A ws lv pc (.int x :: st) := fun H locs ls hP hD hS hl => lv_if_le X.1 X.2.1 hdg ht (fun q => kt (if_t h q) H locs ls hP hD hS hl) (fun q => kf (if_f h q) H locs ls hP hD hS hl)
theorem jn_g {σ τ : Type} {k : σ → Option τ} {body : (σ → Option τ) → Option τ} {r : τ} (h : jn k body = some r) (wf : σ → va_W) (lf : σ → List (Nat × Value)) (sf : σ → List Value) (pcj : Nat) (HJ : ∀ v, k v = some r → GG p l e R s m args below meth c cells slots Q nL D A (wf v) (lf v) pcj (sf v)) (HM : ∀ K : σ → Option τ, (∀ v, K v = some r → GG p l e R s m args below meth c cells slots Q nL D A (wf v) (lf v) pcj (sf v)) → body K = some r → GG p l e R s m args below meth c cells slots Q nL D A ws lv pc st) : GG p l e R s m args below meth c cells slots Q nL D A ws lv pc st := HM k HJ h
theorem wl_g1 {σ ρ τ : Type} {step : σ → Option (σ ⊕ ρ)} {k : ρ → Option τ} {r : τ} {N : Nat} {a : σ} (h : (wl step N a).bind k = some r) (wf : σ → va_W) (lf : σ → List (Nat × Value)) (hw : wf a = ws) (hl : lf a = lv) (wx : ρ → va_W) (lx : ρ → List (Nat × Value)) (pcx : Nat) (HX : ∀ q, k q = some r → GG p l e R s m args below meth c cells slots Q nL D A (wx q) (lx q) pcx ([]))
    (hs : ∀ x o, step x = some o → (∀ b, o = .inl b → GG p l e R s m args below meth c cells slots Q nL D A (wf b) (lf b) pc ([])) → (∀ q, o = .inr q → GG p l e R s m args below meth c cells slots Q nL D A (wx q) (lx q) pcx ([])) → GG p l e R s m args below meth c cells slots Q nL D A (wf x) (lf x) pc ([])) : GG p l e R s m args below meth c cells slots Q nL D A ws lv pc ([]) := by
  subst hw; subst hl
  exact wl_i (M := fun x => GG p l e R s m args below meth c cells slots Q nL D A (wf x) (lf x) pc ([])) (fun x o hx h1 h2 => hs x o hx h1 (fun q hq => HX q (h2 q hq))) N a h
theorem wl_g2 {σ ρ1 ρ2 τ : Type} {step : σ → Option (σ ⊕ (ρ1 ⊕ ρ2))} {k1 : ρ1 → Option τ} {k2 : ρ2 → Option τ} {r : τ} {N : Nat} {a : σ} (h : (wl step N a).bind (Sum.elim k1 k2) = some r) (wf : σ → va_W) (lf : σ → List (Nat × Value)) (hw : wf a = ws) (hl : lf a = lv) (wx : ρ1 → va_W) (lx : ρ1 → List (Nat × Value)) (pcx : Nat) (wy : ρ2 → va_W) (ly : ρ2 → List (Nat × Value)) (pcy : Nat) (HX : ∀ q, k1 q = some r → GG p l e R s m args below meth c cells slots Q nL D A (wx q) (lx q) pcx ([])) (HY : ∀ q, k2 q = some r → GG p l e R s m args below meth c cells slots Q nL D A (wy q) (ly q) pcy ([]))
    (hs : ∀ x o, step x = some o → (∀ b, o = .inl b → GG p l e R s m args below meth c cells slots Q nL D A (wf b) (lf b) pc ([])) → (∀ q, o = .inr (.inl q) → GG p l e R s m args below meth c cells slots Q nL D A (wx q) (lx q) pcx ([])) → (∀ q, o = .inr (.inr q) → GG p l e R s m args below meth c cells slots Q nL D A (wy q) (ly q) pcy ([])) → GG p l e R s m args below meth c cells slots Q nL D A (wf x) (lf x) pc ([])) : GG p l e R s m args below meth c cells slots Q nL D A ws lv pc ([]) := by
  subst hw; subst hl
  exact wl_i (M := fun x => GG p l e R s m args below meth c cells slots Q nL D A (wf x) (lf x) pc ([])) (fun x o hx h1 h2 => hs x o hx h1 (fun q hq => HX q (h2 (.inl q) hq)) (fun q hq => HY q (h2 (.inr q) hq))) N a h
theorem g_tabOut {α : Type} {x1 y1 : Option α} {r : α} (X : GC p s m args c cc nL own Ts D tys A) {dflt lo hi : Int} {offs : Array Int} {len : Nat} {x : Int32} {tgt : Nat} (u v : Int32) (h : (if x < u ∨ v < x then x1 else y1) = some r) (hu : u.toInt = lo) (hv : v.toInt = hi) (hdg : decode cc pc = .ok (.tableswitch dflt lo hi offs, len)) (ht : (pc : Int) + dflt = (tgt : Int)) (kt : x1 = some r → GG p l e R s m args below meth c cells slots Q nL D A ws lv tgt st) (kf : y1 = some r → GG p l e R s m args below meth c cells slots Q nL D A ws lv pc (.int x :: st)) : GG p l e R s m args below meth c cells slots Q nL D A ws lv pc (.int x :: st) := by
  by_cases hc : x < u ∨ v < x
  · exact fun H locs ls hP hD hS hl => lv_tableOut X.1 X.2.1 hdg (by rw [← hu, ← hv]; exact hc.imp Int32.lt_iff_toInt_lt.mp Int32.lt_iff_toInt_lt.mp) ht (kt (if_t h hc) H locs ls hP hD hS hl)
  · exact kf (if_f h hc)
theorem g_tabIn {α : Type} {x1 y1 : Option α} {r : α} (X : GC p s m args c cc nL own Ts D tys A) {dflt lo hi : Int} {offs : Array Int} {len : Nat} {x : Int32} {off : Int} {tgt : Nat} (u : Int32) (h : (if x = u then x1 else y1) = some r) (hdg : decode cc pc = .ok (.tableswitch dflt lo hi offs, len)) (h1 : ¬ u.toInt < lo) (h2 : ¬ hi < u.toInt) (ho : offs[(u.toInt - lo).toNat]? = some off) (ht : (pc : Int) + off = (tgt : Int)) (kt : x1 = some r → GG p l e R s m args below meth c cells slots Q nL D A ws lv tgt st) (kf : y1 = some r → GG p l e R s m args below meth c cells slots Q nL D A ws lv pc (.int x :: st)) : GG p l e R s m args below meth c cells slots Q nL D A ws lv pc (.int x :: st) := by
  by_cases hc : x = u
  · subst hc
    exact fun H locs ls hP hD hS hl => lv_tableIn X.1 X.2.1 hdg h1 h2 ho ht (kt (if_t h rfl) H locs ls hP hD hS hl)
  · exact kf (if_f h hc)
theorem g_look {α : Type} {x1 y1 z1 : Option α} {r : α} (X : GC p s m args c cc nL own Ts D tys A) {dflt o0 o1 : Int} {len : Nat} {x : Int32} {t0 t1 td : Nat} (u v : Int32) {a b : Int} (hu : u.toInt = a) (hv : v.toInt = b) (h : (if x = u then x1 else if x = v then y1 else z1) = some r) (hdg : decode cc pc = .ok (.lookupswitch dflt #[(a, o0), (b, o1)], len)) (hab : a < b) (ht0 : (pc : Int) + o0 = (t0 : Int)) (ht1 : (pc : Int) + o1 = (t1 : Int)) (htd : (pc : Int) + dflt = (td : Int)) (k0 : x1 = some r → GG p l e R s m args below meth c cells slots Q nL D A ws lv t0 st) (k1 : y1 = some r → GG p l e R s m args below meth c cells slots Q nL D A ws lv t1 st) (kd : z1 = some r → GG p l e R s m args below meth c cells slots Q nL D A ws lv td st) : GG p l e R s m args below meth c cells slots Q nL D A ws lv pc (.int x :: st) := by
  subst hu; subst hv
  have hz : (#[(u.toInt, o0), (v.toInt, o1)].toList.zip (#[(u.toInt, o0), (v.toInt, o1)].toList.drop 1)).all (fun (a, next) => a.1 < next.1) = true := by simp [hab]
  by_cases hc : x = u
  · subst hc
    exact fun H locs ls hP hD hS hl => lv_lookup X.1 X.2.1 hdg hz (off := o0) (by simp [Op.lookupswitch.offset]) ht0 (k0 (if_t h rfl) H locs ls hP hD hS hl)
  · have h := if_f h hc
    by_cases hc2 : x = v
    · subst hc2
      exact fun H locs ls hP hD hS hl => lv_lookup X.1 X.2.1 hdg hz (off := o1) ((lv_osw hc rfl).trans (by simp [Op.lookupswitch.offset])) ht1 (k1 (if_t h rfl) H locs ls hP hD hS hl)
    · exact fun H locs ls hP hD hS hl => lv_lookup X.1 X.2.1 hdg hz (off := dflt) ((lv_osw hc rfl).trans ((lv_osw hc2 rfl).trans (by simp [Op.lookupswitch.offset]))) htd (kd (if_f h hc2) H locs ls hP hD hS hl)
theorem g_get (X : GC p s m args c cc nL own Ts D tys A) {a q0 k ci index : Nat} {C : String} {T : u_T} {N : Nat} {fs : List Value} {v : Value} (hin : ∀ w ∈ u_ws C T N, w ∈ Ts) (hlink : Cond.fieldLink own index (T k).1 (T k).2.1 (T k).2.2.1 ∈ Ts) (he : ws[q0]? = some (a, .inr (ci, fs))) (hc : vwCl[ci]? = some (C, T, N)) (hk : k < N) (hv : fs[k]? = some v) (hdg : decode cc pc = .ok (.getfield index, 3)) (kk : GG p l e R s m args below meth c cells slots Q nL D A ws lv (pc + 3) (v :: st)) : GG p l e R s m args below meth c cells slots Q nL D A ws lv pc (.ref a :: st) := fun H locs ls hP hD hS hl => va_get (D := D) X.1 X.2.1 X.2.2.2.2.1 hin X.2.2.2.1 X.2.2.2.2.2.1 hP q0 he hc k hk (X.2.2.2.2.1 _ hlink) (fun _ h => h) hv hdg (kk H locs ls hP hD hS hl)
theorem g_getNest (X : GC p s m args c cc nL own Ts D tys A) {a q0 k ci index : Nat} {C host : String} {T : u_T} {N : Nat} {fs : List Value} {v : Value} (hin : ∀ w ∈ u_ws C T N, w ∈ Ts) (hlink : Cond.fieldLinkNest own index (T k).1 (T k).2.1 (T k).2.2.1 host ∈ Ts) (he : ws[q0]? = some (a, .inr (ci, fs))) (hc : vwCl[ci]? = some (C, T, N)) (hk : k < N) (hv : fs[k]? = some v) (hdg : decode cc pc = .ok (.getfield index, 3)) (kk : GG p l e R s m args below meth c cells slots Q nL D A ws lv (pc + 3) (v :: st)) : GG p l e R s m args below meth c cells slots Q nL D A ws lv pc (.ref a :: st) := fun H locs ls hP hD hS hl => va_getN (D := D) X.1 X.2.1 X.2.2.2.2.1 hin X.2.2.2.1 X.2.2.2.2.2.1 hP q0 he hc k hk (X.2.2.2.2.1 _ hlink) (fun _ h => h) hv hdg (kk H locs ls hP hD hS hl)
theorem g_put (X : GC p s m args c cc nL own Ts D tys A) {a q0 k ci index : Nat} {C : String} {T : u_T} {N : Nat} {fs : List Value} {v : Value} {ty0 : Nat → FieldType} (hty : ∀ k, k < N → parseFieldDescriptor (T k).2.2.1 = some (ty0 k)) (hnm : ∀ a, a < N → ∀ b, b < N → a ≠ b → (T a).2.1 ≠ (T b).2.1) (hin : ∀ w ∈ u_ws C T N, w ∈ Ts) (hlink : Cond.fieldLink own index (T k).1 (T k).2.1 (T k).2.2.1 ∈ Ts) (he : ws[q0]? = some (a, .inr (ci, fs))) (hc : vwCl[ci]? = some (C, T, N)) (hk : k < N) (hfin : (T k).2.2.2 = false) (hn : narrow (ty0 k) v = v) (hfit : fits (ty0 k) v = true) (hl : k < fs.length) (hdg : decode cc pc = .ok (.putfield index, 3)) (hws : ws.set q0 (a, .inr (ci, fs.set k v)) = ws') (kk : GG p l e R s m args below meth c cells slots Q nL D A ws' lv (pc + 3) st) : GG p l e R s m args below meth c cells slots Q nL D A ws lv pc (v :: .ref a :: st) := fun H locs ls hP hD hS h => va_put (D := D) X.1 X.2.1 X.2.2.2.2.1 hin ty0 hty hnm X.2.2.2.1 X.2.2.2.2.2.1 hP hD hS q0 he hc k hk (X.2.2.2.2.1 _ hlink) (fun _ h => h) hfin (hty k hk) hn hfit hl hdg (fun H1 locs1 hP hD hS => kk H1 locs1 ls (hws ▸ hP) (hws ▸ hD) hS h)
theorem g_iald {α : Type} {kx : Int32 → Option α} {r : α} (X : GC p s m args c cc nL own Ts D tys A) {a q0 t0 : Nat} {cA : ClassId} {n : Nat} {f : Nat → Int32} {i : Int32} (h : (rdA f n i).bind kx = some r) (ha : ws[q0]? = some (a, .inl (cA, n, .inl f))) (ht : tys[t0]? = some (cA, .int)) (hdg : decode cc pc = .ok (.iaload, 1)) (kk : ∀ v : Int32, kx v = some r → GG p l e R s m args below meth c cells slots Q nL D A ws lv (pc + 1) (.int v :: st)) : GG p l e R s m args below meth c cells slots Q nL D A ws lv pc (.int i :: .ref a :: st) := by
  obtain ⟨v, hv, h⟩ := bd_e h
  obtain ⟨h1, rfl⟩ := rdA_e hv
  exact fun H locs ls hP hD hS hl => va_iald (D := D) X.1 X.2.1 X.2.2.2.2.2.1 hP q0 t0 ha ht h1 hdg (kk _ h H locs ls hP hD hS hl)
theorem g_lald {α : Type} {kx : Int64 → Option α} {r : α} (X : GC p s m args c cc nL own Ts D tys A) {a q0 t0 : Nat} {cA : ClassId} {n : Nat} {f : Nat → Int64} {i : Int32} (h : (rdL f n i).bind kx = some r) (ha : ws[q0]? = some (a, .inl (cA, n, .inr (.inl f)))) (ht : tys[t0]? = some (cA, .long)) (hdg : decode cc pc = .ok (.laload, 1)) (kk : ∀ v : Int64, kx v = some r → GG p l e R s m args below meth c cells slots Q nL D A ws lv (pc + 1) (.long v :: st)) : GG p l e R s m args below meth c cells slots Q nL D A ws lv pc (.int i :: .ref a :: st) := by
  obtain ⟨v, hv, h⟩ := bd_e h
  obtain ⟨h1, rfl⟩ := rdL_e hv
  exact fun H locs ls hP hD hS hl => va_lald (D := D) X.1 X.2.1 X.2.2.2.2.2.1 hP q0 t0 ha ht h1 hdg (kk _ h H locs ls hP hD hS hl)
theorem g_iast {α : Type} {kx : (Nat → Int32) → Option α} {r : α} {ws1 : (Nat → Int32) → va_W} (X : GC p s m args c cc nL own Ts D tys A) {a q0 t0 : Nat} {cA : ClassId} {n : Nat} {f : Nat → Int32} {i x : Int32} (h : (wrA f n i x).bind kx = some r) (ha : ws[q0]? = some (a, .inl (cA, n, .inl f))) (ht : tys[t0]? = some (cA, .int)) (hdg : decode cc pc = .ok (.iastore, 1)) (hws : ∀ g, ws.set q0 (a, .inl (cA, n, .inl g)) = ws1 g) (kk : ∀ g : Nat → Int32, kx g = some r → GG p l e R s m args below meth c cells slots Q nL D A (ws1 g) lv (pc + 1) st) : GG p l e R s m args below meth c cells slots Q nL D A ws lv pc (.int x :: .int i :: .ref a :: st) := by
  obtain ⟨v, hv, h⟩ := bd_e h
  obtain ⟨h1, rfl⟩ := wrA_e hv
  exact fun H locs ls hP hD hS hl => va_iast (D := D) X.1 X.2.1 X.2.2.2.2.2.1 hP hD hS q0 t0 ha ht h1 hdg (fun H1 locs1 hP hD hS => kk _ h H1 locs1 ls (hws _ ▸ hP) (hws _ ▸ hD) hS hl)
theorem g_last {α : Type} {kx : (Nat → Int64) → Option α} {r : α} {ws1 : (Nat → Int64) → va_W} (X : GC p s m args c cc nL own Ts D tys A) {a q0 t0 : Nat} {cA : ClassId} {n : Nat} {f : Nat → Int64} {i : Int32} {x : Int64} (h : (wrL f n i x).bind kx = some r) (ha : ws[q0]? = some (a, .inl (cA, n, .inr (.inl f)))) (ht : tys[t0]? = some (cA, .long)) (hdg : decode cc pc = .ok (.lastore, 1)) (hws : ∀ g, ws.set q0 (a, .inl (cA, n, .inr (.inl g))) = ws1 g) (kk : ∀ g : Nat → Int64, kx g = some r → GG p l e R s m args below meth c cells slots Q nL D A (ws1 g) lv (pc + 1) st) : GG p l e R s m args below meth c cells slots Q nL D A ws lv pc (.long x :: .int i :: .ref a :: st) := by
  obtain ⟨v, hv, h⟩ := bd_e h
  obtain ⟨h1, rfl⟩ := wrL_e hv
  exact fun H locs ls hP hD hS hl => va_last (D := D) X.1 X.2.1 X.2.2.2.2.2.1 hP hD hS q0 t0 ha ht h1 hdg (fun H1 locs1 hP hD hS => kk _ h H1 locs1 ls (hws _ ▸ hP) (hws _ ▸ hD) hS hl)
theorem g_alen (X : GC p s m args c cc nL own Ts D tys A) {a q0 t0 : Nat} {cA : ClassId} {n : Nat} {f : Nat → Int32} (ha : ws[q0]? = some (a, .inl (cA, n, .inl f))) (ht : tys[t0]? = some (cA, .int)) (hdg : decode cc pc = .ok (.arraylength, 1)) (kk : GG p l e R s m args below meth c cells slots Q nL D A ws lv (pc + 1) (.int (Int32.ofNat n) :: st)) : GG p l e R s m args below meth c cells slots Q nL D A ws lv pc (.ref a :: st) := fun H locs ls hP hD hS hl => va_alen (D := D) X.1 X.2.1 X.2.2.2.2.2.1 hP q0 t0 ha ht rfl hdg (kk H locs ls hP hD hS hl)
/-- a contract: from the world ws0 it returns ret, to a world w1 with WW w1 -/
def gQ (D : va_G) (A : Nat → Prop) (ret : Option Value) (WW : va_W → Prop) : Array Value → State → Outcome → State → Prop := fun _ st oc t => oc = .returned ret ∧ (∃ w1, WW w1 ∧ va_P D vwCl w1 t.heap ∧ va_D A w1) ∧ va_F A st t
def gP (D : va_G) (tys : List (ClassId × FieldType)) (av : List Value) (ws0 : va_W) (sz : Nat) : Array Value → State → Prop := va_Pc av (fun U => U.heap.size = sz ∧ va_P D vwCl ws0 U.heap ∧ va_K D vwCl tys U ∧ va_D (fun _ => True) ws0 ∧ xN U)
def KM (l : Launch) (y : MethodName) (w : List Cond) (rm : Room) (D : va_G) (tys : List (ClassId × FieldType)) (av : List Value) (ws0 : va_W) (ret : Option Value) (WW : va_W → Prop) (mc ms : Nat) : Prop :=
  ∀ sz : Nat, Met l y w rm (gP D tys av ws0 sz) (gQ D (va_A ws0 sz) ret WW) mc ms (va_A ws0 sz)
theorem gP_blind {av : List Value} {ws0 : va_W} {sz : Nat} : FrameBlind (gP D tys av ws0 sz) := fun a U g mk q => by
  obtain ⟨q0, q1, qP, qK, qD, qN⟩ := q
  exact ⟨q0, q1, qP, va_K.moved (u := U) (U := U.calling g mk a) (Vm.Alike.refl U.vm) qK, qD, va_Nw.same rfl rfl qN.1, va_Nw.same rfl rfl qN.2⟩
/-- the entry of a method -/
theorem g_entry {y : MethodName} {w w' : List Cond} {rm : Room} {av : List Value} {ws0 : va_W} {ret : Option Value} {WW : va_W → Prop} {mc ms : Nat} {cc : ByteArray} {nL : Nat} {rt : Option FieldType}
    (hy : plainName y.cls = true) (hw : w = Cond.code y cc nL rt :: w') (hL : (lg_sl av).length ≤ nL)
    (body : ∀ (p : Program) (e : Env) (s : State) (m : MethodId) (args : Array Value) (below : List Frame) (meth : Method) (c : Code) (A : Nat → Prop), GC p s m args c cc nL y.cls w D tys A → meth.sig.returnType = rt → meth.locks = false → meth.name = y.name → (∀ q, A q ↔ va_A ws0 s.heap.size q) →
      GG p l e rm s m args below meth c 0 0 (MQ below (gQ D A ret WW) args s mc ms A) nL D A ws0 (lv_args 0 av) 0 []) : KM l y w rm D tys av ws0 ret WW mc ms := by
  intro sz
  refine Met.ofW hy hw ?_
  intro p e s m args below meth c s₁ B hml hv
  obtain ⟨rfl, hsz, hP, hK, hD0, hN⟩ := hv
  subst hsz
  rw [lg_entry_eq]
  exact body p e s m _ below meth c (va_A ws0 s.heap.size) ⟨B.exec, B.bytes, hml, findClass_of_methodNamed B.named, atoms_spec (ws := w) B.pre, hK, fun q h => Or.inr h, hN⟩ B.returns B.notSynchronized (name_of_methodNamed B.named B.method).1 (fun q => Iff.rfl) s.heap [] _ hP hD0.self va_S.rf (lv_entry av hL)
section Ret
variable {av : List Value} {ret : Option Value} {WW : va_W → Prop}
theorem g_endQ {w1 : va_W} {H : Heap} {locs : List Loc} {t : State} {v : Option Value} (X : GC p s m args c cc nL own Ts D tys A) (hW : WW w1) (hP : va_P D vwCl w1 H) (hD : va_D A w1) (hS : va_S A s.heap H locs) (ht : t.heap = H) (hw : s.WarmedH t.vm) : gQ D A v WW args s (.returned v) t :=
  ⟨rfl, ⟨w1, hW, by rw [ht]; exact hP, hD⟩, hS.F ht⟩
theorem g_iret (X : GC p s m args c cc nL own Ts D tys A) {v v0 : Int32} (hr : meth.sig.returnType = some .int) (hlk : meth.locks = false) (hdg : decode cc pc = .ok (.ireturn, 1)) (hv : v = v0) (hW : WW ws) : GG p l e R s m args below meth c cells slots (MQ below (gQ D A (some (.int v0)) WW) args s cells slots A) nL D A ws lv pc [.int v] := by
  subst hv
  exact fun H locs ls hP hD hS hl => W.iret X.1 X.2.1 hr (fun t ht hw => g_endQ X hW hP hD hS ht hw) hS.2.2 hdg hlk
theorem g_zret (X : GC p s m args c cc nL own Ts D tys A) {v v0 : Int32} (hr : meth.sig.returnType = some .boolean) (hlk : meth.locks = false) (hz : v = 0 ∨ v = 1) (hdg : decode cc pc = .ok (.ireturn, 1)) (hv : v = v0) (hW : WW ws) : GG p l e R s m args below meth c cells slots (MQ below (gQ D A (some (.int v0)) WW) args s cells slots A) nL D A ws lv pc [.int v] := by
  subst hv
  exact fun H locs ls hP hD hS hl => W.zret X.1 X.2.1 hr (by rcases hz with rfl | rfl <;> rfl) (fun t ht hw => g_endQ X hW hP hD hS ht hw) hS.2.2 hdg hlk
theorem g_lret (X : GC p s m args c cc nL own Ts D tys A) {v v0 : Int64} (hr : meth.sig.returnType = some .long) (hlk : meth.locks = false) (hdg : decode cc pc = .ok (.lreturn, 1)) (hv : v = v0) (hW : WW ws) : GG p l e R s m args below meth c cells slots (MQ below (gQ D A (some (.long v0)) WW) args s cells slots A) nL D A ws lv pc [.long v] := by
  subst hv
  exact fun H locs ls hP hD hS hl => W.lret X.1 X.2.1 hr (fun t ht hw => g_endQ X hW hP hD hS ht hw) hS.2.2 hdg hlk
theorem g_dret (X : GC p s m args c cc nL own Ts D tys A) {v v0 : UInt64} (hr : meth.sig.returnType = some .double) (hlk : meth.locks = false) (hdg : decode cc pc = .ok (.dreturn, 1)) (hv : v = v0) (hW : WW ws) : GG p l e R s m args below meth c cells slots (MQ below (gQ D A (some (.double v0)) WW) args s cells slots A) nL D A ws lv pc [.double v] := by
  subst hv
  exact fun H locs ls hP hD hS hl => W.dret X.1 X.2.1 hr (fun t ht hw => g_endQ X hW hP hD hS ht hw) hS.2.2 hdg hlk
theorem g_aret (X : GC p s m args c cc nL own Ts D tys A) {v : Nat} {n : String} (hr : meth.sig.returnType = some (.object n)) (hlk : meth.locks = false) (hdg : decode cc pc = .ok (.areturn, 1)) (hW : WW ws) : GG p l e R s m args below meth c cells slots (MQ below (gQ D A (some (.ref v)) WW) args s cells slots A) nL D A ws lv pc [.ref v] :=
  fun H locs ls hP hD hS hl => W.aret X.1 X.2.1 hr (Or.inl ⟨n, rfl⟩) (Or.inr ⟨v, rfl⟩) (fun t ht hw => g_endQ X hW hP hD hS ht hw) hS.2.2 hdg hlk
theorem g_vret (X : GC p s m args c cc nL own Ts D tys A) (hr : meth.sig.returnType = none) (hlk : meth.locks = false) (hdg : decode cc pc = .ok (.return_, 1)) (hW : WW ws) : GG p l e R s m args below meth c cells slots (MQ below (gQ D A none WW) args s cells slots A) nL D A ws lv pc [] :=
  fun H locs ls hP hD hS hl => W.vret X.1 X.2.1 hr (fun t ht hw => g_endQ X hW hP hD hS ht hw) hS.2.2 hdg hlk
end Ret
section Call
variable {y : MethodName} {bytes : ByteArray} {maxL index : Nat} {rt : Option FieldType} {w w' : List Cond} {rm : Room} {As : List Value} {wc w1 : va_W} {is : List Nat} {v : Option Value}
/-- behind a call that makes nothing and moves nothing -/
theorem g_behind {H : Heap} {locs : List Loc} {ls : Array Slot} {av : List Value} {rest st0 : List Value} {a : Array Value} (X : GC p s m args c cc nL own Ts D tys A)
    (hr : va_Run p l e R s m args below meth c H locs cells slots 0 0 (F0 m pc ls st0) rest (gQ D (va_A wc H.size) v (fun w => w = w1) a) (va_A wc H.size))
    (hC : wpick ws is = wc.map some) (had : w1.map (·.1) = wc.map (·.1)) (hws : wput ws is w1 = ws') (hP : va_P D vwCl ws H) (hD : va_D A ws) (hS : va_S A s.heap H locs) (hl : lv_has ls nL lv)
    (kk : GG p l e R s m args below meth c cells slots Q nL D A ws' lv (pc + 3) (v.toList ++ rest)) : W p l e R s m args below meth c H locs cells slots Q (F0 m pc ls st0) := by
  have hF := va_free (wc := wc) hD hS X.2.2.2.2.2.2.1 is hC
  intro T hT XT
  obtain ⟨v', st₀, t, T', L, h0, X', hL, e1, e2, ⟨hv, ⟨w2, hw2, hP1, hD1⟩, hz, hk⟩, stp⟩ := hr T hT XT
  cases hv
  subst hw2
  rw [h0] at hz hk
  rw [← e1] at hz hk hP1
  obtain ⟨hP', hD'⟩ := wput_join hP hD hC had hk hP1
  rw [hws] at hP' hD'
  have hS' : va_S A s.heap T'.heap (locs ++ L) := ⟨Nat.le_trans hS.1 hz, fun q h1 h2 => by rw [hk q (Nat.lt_of_lt_of_le h1 hS.1) (fun z => h2 (hF q z))]; exact hS.2.1 q h1 h2, fun q hq => by
    rcases List.mem_append.mp hq with h | h
    · exact hS.2.2 q h
    · exact hF _ (hL q h)⟩
  obtain ⟨t2, a1, b1⟩ := kk T'.heap (locs ++ L) ls hP' hD' hS' hl T' rfl X'
  exact ⟨t2, stp t2 a1, b1⟩
theorem g_pre {b : Nat} {q0 ci : Nat} {r : vw_C} {fs : List Value} {H : Heap} {locs : List Loc} (X : GC p s m args c cc nL own Ts D tys A) (hP : va_P D vwCl ws H) (hD : va_D A ws) (hc : vwCl[ci]? = some r) (he : ws[q0]? = some (b, .inr (ci, fs))) (hC : wpick ws is = wc.map some) (hn : va_nd is = true) : PreV s H r.1 b (gP D tys (.ref b :: As) wc H.size) As := by
  have hPc : va_P D vwCl wc H := fun k q hq => by
    obtain ⟨i, -, h2⟩ := wpick_get' hC hq
    exact hP i q h2
  have hDc : va_D A wc := hD.sub is hn hC
  exact ⟨gP_blind, va_recv X.2.2.2.2.2.1 hP hc he, fun U hU hW => ⟨rfl, by rw [hU], by rw [hU]; exact hPc, va_K.moved hW.alike X.2.2.2.2.2.1, hDc.weaken (fun _ _ _ _ => trivial), X.2.2.2.2.2.2.2.warm hW⟩⟩
theorem g_preS {H : Heap} {locs : List Loc} (X : GC p s m args c cc nL own Ts D tys A) (hP : va_P D vwCl ws H) (hD : va_D A ws) (hC : wpick ws is = wc.map some) (hn : va_nd is = true) : PreS s H (gP D tys As wc H.size) As := by
  have hPc : va_P D vwCl wc H := fun k q hq => by
    obtain ⟨i, -, h2⟩ := wpick_get' hC hq
    exact hP i q h2
  have hDc : va_D A wc := hD.sub is hn hC
  exact ⟨gP_blind, fun U hU hW => ⟨rfl, by rw [hU], by rw [hU]; exact hPc, va_K.moved hW.alike X.2.2.2.2.2.1, hDc.weaken (fun _ _ _ _ => trivial), X.2.2.2.2.2.2.2.warm hW⟩⟩
/-- invokevirtual -/
theorem g_callV {b q0 ci n : Nat} {r : vw_C} {fs : List Value} (X : GC p s m args c cc nL own Ts D tys A) (hM : KM l y w rm D tys (.ref b :: As) wc v (fun w => w = w1) 0 0) (hg : GoodIn Ts (wsV own index r.1 y w)) (hw : w = Cond.code y bytes maxL rt :: w') (hrm : rm.cells = 0 ∧ rm.slots = 0)
    (hd : y.cls = r.1 ∧ y.cls ≠ "java/lang/invoke/MethodHandle" ∧ y.cls ≠ "java/lang/invoke/VarHandle" ∧ (parseMethodDescriptor y.desc).map (fun d => d.parameters.length) = some n) (hR : rm.frames + 1 ≤ R.frames ∧ 8 + (maxL + 11) + rm.locals ≤ R.locals) (hf : cells ≤ R.cells ∧ slots ≤ R.slots)
    (hc : vwCl[ci]? = some r) (he : ws[q0]? = some (b, .inr (ci, fs))) (hC : wpick ws is = wc.map some) (hn : va_nd is = true) (had : w1.map (·.1) = wc.map (·.1)) (hws : wput ws is w1 = ws') (hlen : As.length = n) (hsum : (st.map fun v => v.category).sum ≤ 8) {st0 : List Value} (hst : st0 = As.reverse ++ .ref b :: st)
    (hdg : decode cc pc = .ok (.invokevirtual index, 3)) (kk : GG p l e R s m args below meth c cells slots Q nL D A ws' lv (pc + 3) (v.toList ++ st)) : GG p l e R s m args below meth c cells slots Q nL D A ws lv pc st0 := fun H locs ls hP hD hS hl =>
  g_behind (av := As) X (va_runV (As := As) (rest := st) ⟨X.1, X.2.1, X.2.2.1, X.2.2.2.1, X.2.2.2.2.1⟩ (hM H.size) (cwV n X.2.2.2.2.1 hg hw hrm.1 hrm.2 hd hR) (g_pre (locs := locs) X hP hD hc he hC hn) rfl hlen hl.1 hst (lv_room hsum) hdg hf) hC had hws hP hD hS hl kk
/-- invokestatic -/
theorem g_callS {n : Nat} (X : GC p s m args c cc nL own Ts D tys A) (hM : KM l y w rm D tys As wc v (fun w => w = w1) 0 0) (hg : GoodIn Ts (va_wsS own index y w)) (hw : w = Cond.code y bytes maxL rt :: w') (hrm : rm.cells = 0 ∧ rm.slots = 0)
    (hd : y.cls ≠ "java/lang/invoke/MethodHandle" ∧ y.cls ≠ "java/lang/invoke/VarHandle" ∧ (parseMethodDescriptor y.desc).map (fun d => d.parameters.length) = some n) (hR : rm.frames + 1 ≤ R.frames ∧ 8 + (maxL + 11) + rm.locals ≤ R.locals) (hf : cells ≤ R.cells ∧ slots ≤ R.slots)
    (hC : wpick ws is = wc.map some) (hn : va_nd is = true) (had : w1.map (·.1) = wc.map (·.1)) (hws : wput ws is w1 = ws') (hlen : As.length = n) (hsum : (st.map fun v => v.category).sum ≤ 8) {st0 : List Value} (hst : st0 = As.reverse ++ st)
    (hdg : decode cc pc = .ok (.invokestatic index, 3)) (kk : GG p l e R s m args below meth c cells slots Q nL D A ws' lv (pc + 3) (v.toList ++ st)) : GG p l e R s m args below meth c cells slots Q nL D A ws lv pc st0 := fun H locs ls hP hD hS hl =>
  g_behind (av := As) X (va_runS (As := As) (rest := st) ⟨X.1, X.2.1, X.2.2.1, X.2.2.2.1, X.2.2.2.2.1⟩ (hM H.size) (by
    have ok : ∀ w1 ∈ va_wsS own index y w, w1.before args s = true := fun w1 h => X.2.2.2.2.1 w1 (hg w1 h).1
    exact ⟨callB_of n X.2.2.2.2.1 (fun w1 h => hg w1 (by unfold va_wsS; exact List.mem_append_right _ h)) hw hrm.1 hrm.2 (ok _ (by simp [va_wsS])) (ok _ (by simp [va_wsS])) hd hR, ok _ (by simp [va_wsS])⟩) (g_preS (locs := locs) X hP hD hC hn) rfl hlen hl.1 hst (lv_room hsum) hdg hf) hC had hws hP hD hS hl kk
/-- invokestatic of a nest mate's private method -/
theorem g_callSN {n : Nat} {host : String} (X : GC p s m args c cc nL own Ts D tys A) (hM : KM l y w rm D tys As wc v (fun w => w = w1) 0 0) (hnw : va_Nw (.methodLinkNest own index y host) s) (hg : GoodIn Ts w) (hst0 : Cond.static y ∈ Ts) (hin0 : Cond.initialized y.cls ∈ Ts) (hw : w = Cond.code y bytes maxL rt :: w') (hrm : rm.cells = 0 ∧ rm.slots = 0)
    (hd : y.cls ≠ "java/lang/invoke/MethodHandle" ∧ y.cls ≠ "java/lang/invoke/VarHandle" ∧ (parseMethodDescriptor y.desc).map (fun d => d.parameters.length) = some n) (hR : rm.frames + 1 ≤ R.frames ∧ 8 + (maxL + 11) + rm.locals ≤ R.locals) (hf : cells ≤ R.cells ∧ slots ≤ R.slots)
    (hC : wpick ws is = wc.map some) (hn : va_nd is = true) (had : w1.map (·.1) = wc.map (·.1)) (hws : wput ws is w1 = ws') (hlen : As.length = n) (hsum : (st.map fun v => v.category).sum ≤ 8) {st0 : List Value} (hst : st0 = As.reverse ++ st)
    (hdg : decode cc pc = .ok (.invokestatic index, 3)) (kk : GG p l e R s m args below meth c cells slots Q nL D A ws' lv (pc + 3) (v.toList ++ st)) : GG p l e R s m args below meth c cells slots Q nL D A ws lv pc st0 := fun H locs ls hP hD hS hl =>
  g_behind (av := As) X (va_runSN (As := As) (rest := st) ⟨X.1, X.2.1, X.2.2.1, X.2.2.2.1, X.2.2.2.2.1⟩ (hM H.size) ⟨va_cnB n X.2.2.2.2.1 hg hw hrm.1 hrm.2 hnw (X.2.2.2.2.1 _ hin0) hd hR, X.2.2.2.2.1 _ hst0, trivial⟩ (g_preS (locs := locs) X hP hD hC hn) rfl hlen hl.1 hst (lv_room hsum) hdg hf) hC had hws hP hD hS hl kk
end Call
theorem g_mmax (X : GC p s m args c cc nL own Ts D tys A) {index : Nat} {x y : Int32} (h1 : Cond.methodLink own index Lib.Math.max.name ∈ Ts) (h2 : Cond.static Lib.Math.max.name ∈ Ts) (h3 : Cond.initialized "java/lang/Math" ∈ Ts) (h4 : Cond.code Lib.Math.max.name Lib.Math.max.code 2 (some .int) ∈ Ts) (hf : 1 ≤ R.frames) (hr : (st.map fun v => v.category).sum + 13 ≤ R.locals) (hc : cells ≤ R.cells) (hs : slots ≤ R.slots) (hdg : decode cc pc = .ok (.invokestatic index, 3)) (kk : GG p l e R s m args below meth c cells slots Q nL D A ws lv (pc + 3) (.int (if x < y then y else x) :: st)) : GG p l e R s m args below meth c cells slots Q nL D A ws lv pc (.int y :: .int x :: st) := fun H locs ls hP hD hS hl =>
  va_mmax X.1 X.2.1 (by rw [X.2.2.1]; exact hl.1.symm) X.2.2.2.1 (X.2.2.2.2.1 _ h1) (X.2.2.2.2.1 _ h2) (X.2.2.2.2.1 _ h3) (X.2.2.2.2.1 _ h4) hf hr hc hs hdg (kk H locs ls hP hD hS hl)
theorem g_mmin (X : GC p s m args c cc nL own Ts D tys A) {index : Nat} {x y : Int32} (h1 : Cond.methodLink own index Lib.Math.min.name ∈ Ts) (h2 : Cond.static Lib.Math.min.name ∈ Ts) (h3 : Cond.initialized "java/lang/Math" ∈ Ts) (h4 : Cond.code Lib.Math.min.name Lib.Math.min.code 2 (some .int) ∈ Ts) (hf : 1 ≤ R.frames) (hr : (st.map fun v => v.category).sum + 13 ≤ R.locals) (hc : cells ≤ R.cells) (hs : slots ≤ R.slots) (hdg : decode cc pc = .ok (.invokestatic index, 3)) (kk : GG p l e R s m args below meth c cells slots Q nL D A ws lv (pc + 3) (.int (if y < x then y else x) :: st)) : GG p l e R s m args below meth c cells slots Q nL D A ws lv pc (.int y :: .int x :: st) := fun H locs ls hP hD hS hl =>
  va_mmin X.1 X.2.1 (by rw [X.2.2.1]; exact hl.1.symm) X.2.2.2.1 (X.2.2.2.2.1 _ h1) (X.2.2.2.2.1 _ h2) (X.2.2.2.2.1 _ h3) (X.2.2.2.2.1 _ h4) hf hr hc hs hdg (kk H locs ls hP hD hS hl)
end GRows
