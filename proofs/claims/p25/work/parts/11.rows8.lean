section GRows8
variable {p : Program} {l : Launch} {e : Env} {R : Room} {s : State} {m : MethodId} {args : Array Value} {below : List Frame} {meth : Method} {c : Code} {cells slots : Nat} {Q : State → Prop}
variable {cc : ByteArray} {nL : Nat} {own : String} {Ts : List Cond} {D : va_G} {tys : List (ClassId × FieldType)} {A : Nat → Prop} {ws ws' : va_W} {lv lv' : List (Nat × Value)} {pc : Nat} {st : List Value}
/-- the script: L ints xs at the cell b, which lies outside A -/
def sX (b L : Nat) (xs : Nat → Int32) (A : Nat → Prop) (s : State) : Prop := va_X b L xs s s.heap ∧ b < s.heap.size ∧ ¬ A b
/-- an element of the script, with its reading -/
theorem g_sldR {b L : Nat} {xs : Nat → Int32} {τ : Type} {k : Int32 → Option τ} {r : τ} {i : Int32} (X : GC p s m args c cc nL own Ts D tys A) (Z : sX b L xs A s) (h : (rdA xs L i).bind k = some r) (hdg : decode cc pc = .ok (.iaload, 1)) (kk : ∀ v : Int32, k v = some r → GG p l e R s m args below meth c cells slots Q nL D A ws lv (pc + 1) (.int v :: st)) : GG p l e R s m args below meth c cells slots Q nL D A ws lv pc (.int i :: .ref b :: st) := by
  obtain ⟨v, h1, h2⟩ := bd_e h
  obtain ⟨hin, hv⟩ := rdA_e h1
  subst hv
  exact fun H locs ls hP hD hS hl => va_sld X.1 X.2.1 Z.1 Z.2.1 Z.2.2 hS hin hdg (kk _ h2 H locs ls hP hD hS hl)
theorem g_slenR {b L : Nat} {xs : Nat → Int32} (X : GC p s m args c cc nL own Ts D tys A) (Z : sX b L xs A s) (hdg : decode cc pc = .ok (.arraylength, 1)) (kk : GG p l e R s m args below meth c cells slots Q nL D A ws lv (pc + 1) (.int (Int32.ofNat L) :: st)) : GG p l e R s m args below meth c cells slots Q nL D A ws lv pc (.ref b :: st) := fun H locs ls hP hD hS hl => va_slen X.1 X.2.1 Z.1 Z.2.1 Z.2.2 hS hdg (kk H locs ls hP hD hS hl)
def gPs (D : va_G) (tys : List (ClassId × FieldType)) (av : List Value) (ws0 : va_W) (b L : Nat) (xs : Nat → Int32) (sz : Nat) : Array Value → State → Prop := va_Pc av (fun U => ((U.heap.size = sz ∧ va_P D vwCl ws0 U.heap ∧ va_K D vwCl tys U ∧ va_D (fun _ => True) ws0 ∧ xN U) ∧ xT (va_A ws0 sz) U) ∧ va_X b L xs U U.heap ∧ b < sz ∧ ¬ va_A ws0 sz b)
theorem gPs_blind {av : List Value} {ws0 : va_W} {b L : Nat} {xs : Nat → Int32} {sz : Nat} : FrameBlind (gPs D tys av ws0 b L xs sz) := fun a U g mk q => by
  obtain ⟨q0, ⟨⟨q1, qP, qK, qD, qN⟩, qT⟩, qX, q2, q3⟩ := q
  exact ⟨q0, ⟨⟨q1, qP, va_K.moved (u := U) (U := U.calling g mk a) (Vm.Alike.refl U.vm) qK, qD, va_Nw.same rfl rfl qN.1, va_Nw.same rfl rfl qN.2⟩, qT.call⟩, va_X.moved (u := U) (U := U.calling g mk a) (Vm.Alike.refl U.vm) qX, q2, q3⟩
/-- a contract of a method that reads the script -/
def KS (l : Launch) (y : MethodName) (w : List Cond) (rm : Room) (D : va_G) (tys : List (ClassId × FieldType)) (b L : Nat) (xs : Nat → Int32) (av : List Value) (ws0 : va_W) (ret : Option Value) (WW : va_W → Prop) (mc ms : Nat) : Prop :=
  ∀ sz : Nat, Met l y w rm (gPs D tys av ws0 b L xs sz) (gQ D (va_A ws0 sz) ret WW) mc ms (va_A ws0 sz)
theorem g_entryS {y : MethodName} {w w' : List Cond} {rm : Room} {b L : Nat} {xs : Nat → Int32} {av : List Value} {ws0 : va_W} {ret : Option Value} {WW : va_W → Prop} {mc ms : Nat} {cc : ByteArray} {nL : Nat} {rt : Option FieldType}
    (hy : plainName y.cls = true) (hw : w = Cond.code y cc nL rt :: w') (hL : (lg_sl av).length ≤ nL)
    (body : ∀ (p : Program) (e : Env) (s : State) (m : MethodId) (args : Array Value) (below : List Frame) (meth : Method) (c : Code) (A : Nat → Prop), GC p s m args c cc nL y.cls w D tys A → xT A s → sX b L xs A s → meth.sig.returnType = rt → meth.locks = false →
      GG p l e rm s m args below meth c 0 0 (MQ below (gQ D A ret WW) args s mc ms A) nL D A ws0 (lv_args 0 av) 0 []) : KS l y w rm D tys b L xs av ws0 ret WW mc ms := by
  intro sz
  refine Met.ofW hy hw ?_
  intro p e s m args below meth c s₁ B hml hv
  obtain ⟨rfl, ⟨⟨hsz, hP, hK, hD0, hN⟩, hT⟩, hX, hb1, hb2⟩ := hv
  subst hsz
  rw [lg_entry_eq]
  have hts := atoms_spec (ws := w) B.pre
  exact body p e s m _ below meth c (va_A ws0 s.heap.size) ⟨B.exec, B.bytes, hml, findClass_of_methodNamed B.named, hts, hK, fun q h => Or.inr h, hN⟩ hT ⟨hX, hb1, hb2⟩ B.returns B.notSynchronized s.heap [] _ hP hD0.self va_S.rf (lv_entry av hL)
section CallS2
variable {y : MethodName} {bytes : ByteArray} {maxL index : Nat} {rt : Option FieldType} {w w' : List Cond} {rm : Room} {As : List Value} {wc wr : va_W} {is isR : List Nat} {WW : va_W → Prop} {v : Option Value}
/-- invokestatic over a large world: the callee's cells come last -/
theorem g_callSF {n : Nat} (X : GC p s m args c cc nL own Ts D tys A) (hM : KM l y w rm D tys As wc v WW 0 0) (hg : GoodIn Ts (va_wsS own index y w)) (hw : w = Cond.code y bytes maxL rt :: w') (hrm : rm.cells = 0 ∧ rm.slots = 0)
    (hd : y.cls ≠ "java/lang/invoke/MethodHandle" ∧ y.cls ≠ "java/lang/invoke/VarHandle" ∧ (parseMethodDescriptor y.desc).map (fun d => d.parameters.length) = some n) (hR : rm.frames + 1 ≤ R.frames ∧ 8 + (maxL + 11) + rm.locals ≤ R.locals) (hf : cells ≤ R.cells ∧ slots ≤ R.slots)
    (hC : wpick ws is = wc.map some) (hn : va_nd is = true) (hRs : wpick ws isR = wr.map some) (hnR : va_nd isR = true) (hdis : ∀ i ∈ isR, i ∉ is) (hlen : As.length = n) (hsum : (st.map fun v => v.category).sum ≤ 8) {st0 : List Value} (hst : st0 = As.reverse ++ st)
    (hdg : decode cc pc = .ok (.invokestatic index, 3)) (kk : ∀ w1, WW w1 → GG p l e R s m args below meth c cells slots Q nL D A (wr ++ w1) lv (pc + 3) (v.toList ++ st)) : GG p l e R s m args below meth c cells slots Q nL D A ws lv pc st0 := by
  intro H locs ls hP hD hS hl
  have hr : va_Run p l e R s m args below meth c H locs cells slots 0 0 (F0 m pc ls st0) st (gQ D (va_A wc H.size) v WW As.toArray) (va_A wc H.size) := va_runS (As := As) (rest := st) ⟨X.1, X.2.1, X.2.2.1, X.2.2.2.1, X.2.2.2.2.1⟩ (hM H.size) (by
    have ok : ∀ w1 ∈ va_wsS own index y w, w1.before args s = true := fun w1 h => X.2.2.2.2.1 w1 (hg w1 h).1
    exact ⟨callB_of n X.2.2.2.2.1 (fun w1 h => hg w1 (by unfold va_wsS; exact List.mem_append_right _ h)) hw hrm.1 hrm.2 (ok _ (by simp [va_wsS])) (ok _ (by simp [va_wsS])) hd hR, ok _ (by simp [va_wsS])⟩) (g_preS (locs := locs) X hP hD hC hn) rfl hlen hl.1 hst (lv_room hsum) hdg hf
  have hF := va_free (wc := wc) hD hS X.2.2.2.2.2.2.1 is hC
  intro T hT XT
  obtain ⟨v', st₀, t, T', L, h0, X', hL, e1, e2, ⟨hv, ⟨w2, hw2, hP1, hD1⟩, hz, hk⟩, stp⟩ := hr T hT XT
  cases hv
  rw [h0] at hz hk
  rw [← e1] at hz hk hP1
  obtain ⟨hP', hD'⟩ := va_join hP hD is isR hC hRs hnR hdis hk hF hP1 hD1
  have hS' : va_S A s.heap T'.heap (locs ++ L) := ⟨Nat.le_trans hS.1 hz, fun q h1 h2 => by rw [hk q (Nat.lt_of_lt_of_le h1 hS.1) (fun z => h2 (hF q z))]; exact hS.2.1 q h1 h2, fun q hq => by
    rcases List.mem_append.mp hq with h | h
    · exact hS.2.2 q h
    · exact hF _ (hL q h)⟩
  obtain ⟨t2, a1, b1⟩ := kk w2 hw2 T'.heap (locs ++ L) ls hP' hD' hS' hl T' rfl X'
  exact ⟨t2, stp t2 a1, b1⟩
/-- invokestatic of a method that reads the script -/
theorem g_callKS {n mc ms cells' slots' b L0 : Nat} {xs : Nat → Int32} (X : GC p s m args c cc nL own Ts D tys A) (Y : xT A s) (Z : sX b L0 xs A s) (hM : KS l y w rm D tys b L0 xs As wc v WW mc ms) (hg : GoodIn Ts (va_wsS own index y w)) (hw : w = Cond.code y bytes maxL rt :: w') (hrm : rm.cells = mc ∧ rm.slots = ms)
    (hd : y.cls ≠ "java/lang/invoke/MethodHandle" ∧ y.cls ≠ "java/lang/invoke/VarHandle" ∧ (parseMethodDescriptor y.desc).map (fun d => d.parameters.length) = some n) (hR : rm.frames + 1 ≤ R.frames ∧ 8 + (maxL + 11) + rm.locals ≤ R.locals) (hc1 : cells + mc = cells') (hs1 : slots + ms = slots') (hf : cells' ≤ R.cells ∧ slots' ≤ R.slots)
    (hC : wpick ws is = wc.map some) (hn : va_nd is = true) (hRs : wpick ws isR = wr.map some) (hnR : va_nd isR = true) (hdis : ∀ i ∈ isR, i ∉ is) (hlen : As.length = n) (hsum : (st.map fun v => v.category).sum ≤ 8) {st0 : List Value} (hst : st0 = As.reverse ++ st)
    (hdg : decode cc pc = .ok (.invokestatic index, 3)) (kk : ∀ w1, WW w1 → GG p l e R s m args below meth c cells' slots' Q nL D A (wr ++ w1) lv (pc + 3) (v.toList ++ st)) : GG p l e R s m args below meth c cells slots Q nL D A ws lv pc st0 := by
  subst hc1; subst hs1
  intro H locs ls hP hD hS hl
  have hPc : va_P D vwCl wc H := fun k q hq => by
    obtain ⟨i, -, h2⟩ := wpick_get' hC hq
    exact hP i q h2
  have hDc : va_D A wc := hD.sub is hn hC
  have hF := va_free (wc := wc) hD hS X.2.2.2.2.2.2.1 is hC
  have hXH : va_X b L0 xs s H := Z.1.kept (hS.2.1 b Z.2.1 Z.2.2)
  have hpre : PreS s H (gPs D tys As wc b L0 xs H.size) As := ⟨gPs_blind, fun U hU hW => ⟨rfl, ⟨⟨⟨by rw [hU], by rw [hU]; exact hPc, va_K.moved hW.alike X.2.2.2.2.2.1, hDc.weaken (fun _ _ _ _ => trivial), X.2.2.2.2.2.2.2.warm hW⟩, Y.at hW hU hS hF⟩, by rw [hU]; exact va_X.moved hW.alike hXH, Nat.lt_of_lt_of_le Z.2.1 hS.1, fun z => Z.2.2 (hF b z)⟩⟩⟩
  have hr : va_Run p l e R s m args below meth c H locs cells slots mc ms (F0 m pc ls st0) st (gQ D (va_A wc H.size) v WW As.toArray) (va_A wc H.size) := va_runS (As := As) (rest := st) ⟨X.1, X.2.1, X.2.2.1, X.2.2.2.1, X.2.2.2.2.1⟩ (hM H.size) (by
    have ok : ∀ w1 ∈ va_wsS own index y w, w1.before args s = true := fun w1 h => X.2.2.2.2.1 w1 (hg w1 h).1
    exact ⟨callB_of n X.2.2.2.2.1 (fun w1 h => hg w1 (by unfold va_wsS; exact List.mem_append_right _ h)) hw hrm.1 hrm.2 (ok _ (by simp [va_wsS])) (ok _ (by simp [va_wsS])) hd hR, ok _ (by simp [va_wsS])⟩) hpre rfl hlen hl.1 hst (lv_room hsum) hdg hf
  intro T hT XT
  obtain ⟨v', st₀, t, T', L, h0, X', hL, e1, e2, ⟨hv, ⟨w2, hw2, hP1, hD1⟩, hz, hk⟩, stp⟩ := hr T hT XT
  cases hv
  rw [h0] at hz hk
  rw [← e1] at hz hk hP1
  obtain ⟨hP', hD'⟩ := va_join hP hD is isR hC hRs hnR hdis hk hF hP1 hD1
  have hS' : va_S A s.heap T'.heap (locs ++ L) := ⟨Nat.le_trans hS.1 hz, fun q h1 h2 => by rw [hk q (Nat.lt_of_lt_of_le h1 hS.1) (fun z => h2 (hF q z))]; exact hS.2.1 q h1 h2, fun q hq => by
    rcases List.mem_append.mp hq with h | h
    · exact hS.2.2 q h
    · exact hF _ (hL q h)⟩
  obtain ⟨t2, a1, b1⟩ := kk w2 hw2 T'.heap (locs ++ L) ls hP' hD' hS' hl T' rfl X'
  exact ⟨t2, stp t2 a1, b1⟩
end CallS2
end GRows8
