theorem law_types {args : Array Value} {s : State} (h1 : (Cond.arrayClass .int).before args s = true) (h2 : (Cond.arrayOver (.object "ColophonHunt$Shelf")).before args s = true) : ∃ cI cS cL : ClassId, ∀ (k : Nat) (q : ClassId × FieldType), (tyS cI cS cL)[k]? = some q → ArrOfT s q.1 q.2 ∧ va_RA s q.1 q.2 := by
  obtain ⟨cI, kI, pI, a1, a2, a3⟩ := Cond.arrayClass_spec h1
  obtain ⟨pS, cS, kS, b0, -, b1, b2, b3⟩ := Cond.arrayOver_spec h2
  refine ⟨cI, cS, cI, fun k q hq => ?_⟩
  match k, hq with
  | 0, hq =>
    cases hq
    exact ⟨fun n z => ⟨(fun k h => by cases h), kI, a2, pI, a3⟩, a1⟩
  | 1, hq =>
    cases hq
    exact ⟨fun n z => ⟨(fun k h => by cases h), kS, b1, pS, b2⟩, ⟨kS, pS, b1, b2, b0, b3⟩⟩
  | k + 2, hq => simp [tyS] at hq
section GRows7
variable {p : Program} {l : Launch} {e : Env} {R : Room} {s : State} {m : MethodId} {args : Array Value} {below : List Frame} {meth : Method} {c : Code} {cells slots : Nat} {Q : State → Prop}
variable {cc : ByteArray} {nL : Nat} {own : String} {Ts : List Cond} {D : va_G} {tys : List (ClassId × FieldType)} {A : Nat → Prop} {ws ws' : va_W} {lv lv' : List (Nat × Value)} {pc : Nat} {st : List Value}
theorem g_widen {k n : Nat} (h1 : cells ≤ k) (h2 : slots ≤ n) (kk : GG p l e R s m args below meth c k n Q nL D A ws lv pc st) : GG p l e R s m args below meth c cells slots Q nL D A ws lv pc st := fun H locs ls hP hD hS hl => W.widen h1 h2 (kk H locs ls hP hD hS hl)
theorem g_sld (X : GC p s m args c cc nL own Ts D tys A) {b L : Nat} {xs : Nat → Int32} (hX : va_X b L xs s s.heap) (hbl : b < s.heap.size) (hbA : ¬ A b) {i : Int32} (hin : vp_in i L) (hdg : decode cc pc = .ok (.iaload, 1)) (kk : GG p l e R s m args below meth c cells slots Q nL D A ws lv (pc + 1) (.int (xs i.toNatClampNeg) :: st)) : GG p l e R s m args below meth c cells slots Q nL D A ws lv pc (.int i :: .ref b :: st) := fun H locs ls hP hD hS hl => va_sld X.1 X.2.1 hX hbl hbA hS hin hdg (kk H locs ls hP hD hS hl)
theorem g_slen (X : GC p s m args c cc nL own Ts D tys A) {b L : Nat} {xs : Nat → Int32} (hX : va_X b L xs s s.heap) (hbl : b < s.heap.size) (hbA : ¬ A b) (hdg : decode cc pc = .ok (.arraylength, 1)) (kk : GG p l e R s m args below meth c cells slots Q nL D A ws lv (pc + 1) (.int (Int32.ofNat L) :: st)) : GG p l e R s m args below meth c cells slots Q nL D A ws lv pc (.ref b :: st) := fun H locs ls hP hD hS hl => va_slen X.1 X.2.1 hX hbl hbA hS hdg (kk H locs ls hP hD hS hl)
section CallW
variable {y : MethodName} {bytes : ByteArray} {maxL index : Nat} {rt : Option FieldType} {w w' : List Cond} {rm : Room} {As : List Value} {wc wr : va_W} {is isR : List Nat} {WW : va_W → Prop} {hh : List (Nat × Nat × Nat × Nat)}
/-- invokestatic of a method that catches -/
theorem g_callW {n cells' slots' : Nat} {r : Int32} (X : GC p s m args c cc nL own Ts D tys A) (Y : xT A s) (hM : KW l y w rm D tys As wc r WW) (hg : GoodIn Ts (va_wsS own index y w)) (hw : w = Cond.codeWith y bytes maxL rt hh :: w') (hrm : rm.cells = 1 ∧ rm.slots = 6)
    (hd : y.cls ≠ "java/lang/invoke/MethodHandle" ∧ y.cls ≠ "java/lang/invoke/VarHandle" ∧ (parseMethodDescriptor y.desc).map (fun d => d.parameters.length) = some n) (hR : rm.frames + 1 ≤ R.frames ∧ 8 + (maxL + 11) + rm.locals ≤ R.locals) (hc1 : cells + 1 = cells') (hs1 : slots + 6 = slots') (hf : cells' ≤ R.cells ∧ slots' ≤ R.slots)
    (hC : wpick ws is = wc.map some) (hn : va_nd is = true) (hRs : wpick ws isR = wr.map some) (hnR : va_nd isR = true) (hdis : ∀ i ∈ isR, i ∉ is) (hlen : As.length = n) (hsum : (st.map fun v => v.category).sum ≤ 8) {st0 : List Value} (hst : st0 = As.reverse ++ st)
    (hdg : decode cc pc = .ok (.invokestatic index, 3)) (kk : ∀ w1, WW w1 → GG p l e R s m args below meth c cells' slots' Q nL D A (wr ++ w1) lv (pc + 3) (.int r :: st)) : GG p l e R s m args below meth c cells slots Q nL D A ws lv pc st0 := by
  subst hc1; subst hs1
  intro H locs ls hP hD hS hl
  have hPc : va_P D vwCl wc H := fun k q hq => by
    obtain ⟨i, -, h2⟩ := wpick_get' hC hq
    exact hP i q h2
  have hDc : va_D A wc := hD.sub is hn hC
  have hF := va_free (wc := wc) hD hS X.2.2.2.2.2.2.1 is hC
  have hpre : PreS s H (gPx D tys As wc H.size) As := ⟨gPx_blind, fun U hU hW => ⟨rfl, ⟨by rw [hU], by rw [hU]; exact hPc, va_K.moved hW.alike X.2.2.2.2.2.1, hDc.weaken (fun _ _ _ _ => trivial), X.2.2.2.2.2.2.2.warm hW⟩, Y.at hW hU hS hF⟩⟩
  have hr : va_Run p l e R s m args below meth c H locs cells slots 1 6 (F0 m pc ls st0) st (gQ D (va_A wc H.size) (some (.int r)) WW As.toArray) (va_A wc H.size) := vx_runSW (As := As) (rest := st) ⟨X.1, X.2.1, X.2.2.1, X.2.2.2.1, X.2.2.2.2.1⟩ (hM H.size) (vx_cwSW n X.2.2.2.2.1 hg hw hrm.1 hrm.2 hd hR) hpre rfl hlen hl.1 hst (lv_room hsum) hdg hf
  intro T hT XT
  obtain ⟨v', st₀, t, T', L, h0, X', hL, e1, e2, ⟨hv, ⟨w2, hw2, hP1, hD1⟩, hz, hk⟩, stp⟩ := hr T hT XT
  cases hv
  rw [h0] at hz hk
  rw [← e1] at hz hk hP1
  obtain ⟨hP', hD'⟩ := va_join hP hD is isR hC hRs hnR hdis hk hF hP1 hD1
  have hS' : va_S A s.heap T'.heap (locs ++ L) := ⟨Nat.le_trans hS.1 hz, fun q h1 h2 => by rw [hk q (Nat.lt_of_lt_of_le h1 hS.1) (fun z => h2 (hF q z))]; exact hS.2.1 q h1 h2, fun q hq => by
    rcases List.mem_append.mp hq with h | h
    · exact hS.2.2 q h
    · exact hF _ (hL q h)⟩
  obtain ⟨t2, a1, b1⟩ := kk w2 hw2 T'.heap (locs ++ L) ls hP' hD' hS' hl T' rfl X'
  exact ⟨t2, stp t2 a1, b1⟩
end CallW
end GRows7
