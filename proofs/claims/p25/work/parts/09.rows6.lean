section Rows6
variable {l : Launch}
theorem Met_ofWH {y : MethodName} {ws ws' : List Cond} {rm : Room} {Pc : Array Value → State → Prop} {Qc : Array Value → State → Outcome → State → Prop} {mc ms : Nat} {free : Addr → Prop} {cc : ByteArray} {maxL : Nat} {ret : Option FieldType} {hh : List (Nat × Nat × Nat × Nat)}
    (hy : plainName y.cls = true) (hw : ws = Cond.codeWith y cc maxL ret hh :: ws')
    (body : ∀ p e s m args below meth c s₁, BodyLoose p l y (headSpec ws rm) cc maxL ret e s m args below meth c s₁ → c.maxLocals = maxL → Pc args s →
      W p l e (headSpec ws rm).room s m args below meth c s.heap [] 0 0 (MQ below Qc args s mc ms free) (entryFrame m args maxL)) : Met l y ws rm Pc Qc mc ms free := by
  refine MetFree.of_bodyS (code := cc) (maxLocals := maxL) (ret := ret) hy ?_ ?_
  · intro args s m h hn
    obtain ⟨m9, meth, c, hn9, h1, h2, h3, h4, -, h5, h6, -⟩ := Cond.codeWith_spec (atoms_spec (ws := ws) h _ (by rw [hw]; exact List.mem_cons_self))
    cases hn.symm.trans hn9
    exact ⟨meth, c, h1, h2, h3, h4, h5, h6⟩
  · intro p e s m args below meth c s₁ B hml hP _
    have hh0 : s₁.heap = s.heap := by rw [B.state]; rfl
    obtain ⟨t, a1, o, b1, b2, b3⟩ := body p e s m args below meth c s₁ B hml hP s₁ hh0 (Stand.of_body B)
    exact ⟨t, o, a1, b1, b2, ⟨b3.1, b3.2⟩⟩
end Rows6
section GRows6
variable {p : Program} {l : Launch} {e : Env} {R : Room} {s : State} {m : MethodId} {args : Array Value} {below : List Frame} {meth : Method} {c : Code} {cells slots : Nat} {Q : State → Prop}
variable {cc : ByteArray} {nL : Nat} {own : String} {Ts : List Cond} {D : va_G} {tys : List (ClassId × FieldType)} {A : Nat → Prop} {ws ws' : va_W} {lv lv' : List (Nat × Value)} {pc : Nat} {st : List Value}
/-- a contract of a method that catches: it returns an int, and may have made a cell -/
def KW (l : Launch) (y : MethodName) (w : List Cond) (rm : Room) (D : va_G) (tys : List (ClassId × FieldType)) (av : List Value) (ws0 : va_W) (r : Int32) (WW : va_W → Prop) : Prop :=
  ∀ sz : Nat, Met l y w rm (gPx D tys av ws0 sz) (gQ D (va_A ws0 sz) (some (.int r)) WW) 1 6 (va_A ws0 sz)
theorem g_entryW {y : MethodName} {w w' : List Cond} {rm : Room} {av : List Value} {ws0 : va_W} {r : Int32} {WW : va_W → Prop} {cc : ByteArray} {nL : Nat} {rt : Option FieldType} {hh : List (Nat × Nat × Nat × Nat)}
    (hy : plainName y.cls = true) (hw : w = Cond.codeWith y cc nL rt hh :: w') (hL : (lg_sl av).length ≤ nL)
    (body : ∀ (p : Program) (e : Env) (s : State) (m : MethodId) (args : Array Value) (below : List Frame) (meth : Method) (c : Code) (A : Nat → Prop), GC p s m args c cc nL y.cls w D tys A → xT A s → c.exceptionTable.toList = tableOf hh → meth.sig.returnType = rt → meth.locks = false →
      GG p l e rm s m args below meth c 0 0 (MQ below (gQ D A (some (.int r)) WW) args s 1 6 A) nL D A ws0 (lv_args 0 av) 0 []) : KW l y w rm D tys av ws0 r WW := by
  intro sz
  refine Met_ofWH hy hw ?_
  intro p e s m args below meth c s₁ B hml hv
  obtain ⟨rfl, ⟨hsz, hP, hK, hD0, hN⟩, hT⟩ := hv
  subst hsz
  rw [lg_entry_eq]
  have hts := atoms_spec (ws := w) B.pre
  exact body p e s m _ below meth c (va_A ws0 s.heap.size) ⟨B.exec, B.bytes, hml, findClass_of_methodNamed B.named, hts, hK, fun q h => Or.inr h, hN⟩ hT (vx_table (x := y) B (hts (Cond.codeWith y cc nL rt hh) (by rw [hw]; exact List.mem_cons_self))) B.returns B.notSynchronized s.heap [] _ hP hD0.self va_S.rf (lv_entry av hL)
/-- an exception of the class E is on its way, thrown at pc -/
def GX (p : Program) (l : Launch) (e : Env) (R : Room) (s : State) (m : MethodId) (args : Array Value) (below : List Frame) (meth : Method) (c : Code) (cells slots : Nat) (Q : State → Prop) (nL : Nat) (D : va_G) (A : Nat → Prop) (ws : va_W) (lv : List (Nat × Value)) (pc : Nat) (st : List Value) (E : String) : Prop :=
  ∀ (H : Heap) (locs : List Loc) (ls : Array Slot) (q : Addr) (ce : Cell), va_P D vwCl ws H → va_D A ws → va_S A s.heap H locs → lv_has ls nL lv → H[q]? = some ce → ce.vm = .none → s.vm.findClass E = some ce.cls → vx_W p l e R s m args below meth c H locs cells slots Q (F0 m pc ls st) q
theorem g_catch1 (X : GC p s m args c cc nL own Ts D tys A) (Y : xT A s) {E : String} {x : Nat × Nat × Nat × Nat} {hh : List (Nat × Nat × Nat × Nat)} (hE : E ∈ excs) (hT : c.exceptionTable.toList = tableOf (x :: hh)) (hx : covers ⟨x.1, x.2.1, x.2.2.1, x.2.2.2⟩ pc = true) (h0 : x.2.2.2 ≠ 0) (hlk : Cond.classLink own x.2.2.2 E ∈ Ts) (kk : ∀ q : Nat, GG p l e R s m args below meth c cells slots Q nL D A ws lv (x.2.2.1) ([.ref q])) : GX p l e R s m args below meth c cells slots Q nL D A ws lv pc st E := fun H locs ls q ce hP hD hS hl h1 h2 h3 =>
  vx_catch X.2.2.2.1 [] ⟨x.1, x.2.1, x.2.2.1, x.2.2.2⟩ (tableOf hh) hT (fun z hz => by cases hz) hx h0 (X.2.2.2.2.1 _ hlk) (va_Nw.use rfl (Y.2.2.1 E hE)) h1 h2 h3 (kk q H locs ls hP hD hS hl)
theorem g_catch2 (X : GC p s m args c cc nL own Ts D tys A) (Y : xT A s) {E F : String} {x y : Nat × Nat × Nat × Nat} {hh : List (Nat × Nat × Nat × Nat)} (hE : E ∈ excs) (hF : F ∈ excs) (hne : E ≠ F) (hT : c.exceptionTable.toList = tableOf (y :: x :: hh)) (hx : covers ⟨x.1, x.2.1, x.2.2.1, x.2.2.2⟩ pc = true) (h0 : x.2.2.2 ≠ 0) (h0y : y.2.2.2 ≠ 0) (hlk : Cond.classLink own x.2.2.2 E ∈ Ts) (hly : Cond.classLink own y.2.2.2 F ∈ Ts) (kk : ∀ q : Nat, GG p l e R s m args below meth c cells slots Q nL D A ws lv (x.2.2.1) ([.ref q])) : GX p l e R s m args below meth c cells slots Q nL D A ws lv pc st E := fun H locs ls q ce hP hD hS hl h1 h2 h3 =>
  vx_catch X.2.2.2.1 [⟨y.1, y.2.1, y.2.2.1, y.2.2.2⟩] ⟨x.1, x.2.1, x.2.2.1, x.2.2.2⟩ (tableOf hh) hT (fun z hz => by
    cases List.mem_singleton.mp hz
    exact Or.inr ⟨h0y, F, X.2.2.2.2.1 _ hly, Y.2.2.2.2.1 E hE F hF hne⟩) hx h0 (X.2.2.2.2.1 _ hlk) (va_Nw.use rfl (Y.2.2.1 E hE)) h1 h2 h3 (kk q H locs ls hP hD hS hl)
theorem gPx_blind {av : List Value} {ws0 : va_W} {sz : Nat} : FrameBlind (gPx D tys av ws0 sz) := fun a U g mk q => by
  obtain ⟨q0, ⟨q1, qP, qK, qD, qN⟩, qT⟩ := q
  exact ⟨q0, ⟨q1, qP, va_K.moved (u := U) (U := U.calling g mk a) (Vm.Alike.refl U.vm) qK, qD, va_Nw.same rfl rfl qN.1, va_Nw.same rfl rfl qN.2⟩, qT.call⟩
section CallX
variable {y : MethodName} {bytes : ByteArray} {maxL index : Nat} {rt : Option FieldType} {w w' : List Cond} {rm : Room} {As : List Value} {wc wr : va_W} {is isR : List Nat} {res : Int32 ⊕ String} {WW : va_W → Prop}
/-- invokevirtual of a method that returns an int or throws -/
theorem g_callX {b q0 ci n cells' slots' : Nat} {r : vw_C} {fs : List Value} (X : GC p s m args c cc nL own Ts D tys A) (Y : xT A s) (hM : KX l y w rm D tys (.ref b :: As) wc res WW) (hg : GoodIn Ts (wsV own index r.1 y w)) (hw : w = Cond.code y bytes maxL rt :: w') (hrm : rm.cells = 1 ∧ rm.slots = 6)
    (hd : y.cls = r.1 ∧ y.cls ≠ "java/lang/invoke/MethodHandle" ∧ y.cls ≠ "java/lang/invoke/VarHandle" ∧ (parseMethodDescriptor y.desc).map (fun d => d.parameters.length) = some n) (hR : rm.frames + 1 ≤ R.frames ∧ 8 + (maxL + 11) + rm.locals ≤ R.locals) (hc1 : cells + 1 = cells') (hs1 : slots + 6 = slots') (hf : cells' ≤ R.cells ∧ slots' ≤ R.slots)
    (hc : vwCl[ci]? = some r) (he : ws[q0]? = some (b, .inr (ci, fs))) (hC : wpick ws is = wc.map some) (hn : va_nd is = true) (hRs : wpick ws isR = wr.map some) (hnR : va_nd isR = true) (hdis : ∀ i ∈ isR, i ∉ is) (hlen : As.length = n) (hsum : (st.map fun v => v.category).sum ≤ 8) {st0 : List Value} (hst : st0 = As.reverse ++ .ref b :: st)
    (hdg : decode cc pc = .ok (.invokevirtual index, 3)) (kx : ∀ E : String, res = .inr E → ∀ w1, WW w1 → GX p l e R s m args below meth c cells' slots' Q nL D A (wr ++ w1) lv pc st E) (kk : ∀ v : Int32, res = .inl v → ∀ w1, WW w1 → GG p l e R s m args below meth c cells' slots' Q nL D A (wr ++ w1) lv (pc + 3) (.int v :: st)) : GG p l e R s m args below meth c cells slots Q nL D A ws lv pc st0 := by
  subst hc1; subst hs1
  intro H locs ls hP hD hS hl
  have hPc : va_P D vwCl wc H := fun k q hq => by
    obtain ⟨i, -, h2⟩ := wpick_get' hC hq
    exact hP i q h2
  have hDc : va_D A wc := hD.sub is hn hC
  have hF := va_free (wc := wc) hD hS X.2.2.2.2.2.2.1 is hC
  have hpre : PreV s H r.1 b (gPx D tys (.ref b :: As) wc H.size) As := ⟨gPx_blind, va_recv X.2.2.2.2.2.1 hP hc he, fun U hU hW => ⟨rfl, ⟨by rw [hU], by rw [hU]; exact hPc, va_K.moved hW.alike X.2.2.2.2.2.1, hDc.weaken (fun _ _ _ _ => trivial), X.2.2.2.2.2.2.2.warm hW⟩, Y.at hW hU hS hF⟩⟩
  have hr : vx_Run p l e R s m args below meth c H locs cells slots 1 6 (F0 m pc ls st0) st (gV D (va_A wc H.size) res WW (Value.ref b :: As).toArray) (gT D (va_A wc H.size) res WW) (va_A wc H.size) := vx_runV (As := As) (rest := st) ⟨X.1, X.2.1, X.2.2.1, X.2.2.2.1, X.2.2.2.2.1⟩ (hM H.size) (cwV n X.2.2.2.2.1 hg hw hrm.1 hrm.2 hd hR) hpre rfl hlen hl.1 hst (lv_room hsum) hdg hf
  intro T hT XT
  rcases hr T hT XT with ⟨v', st₀, t, T', L, h0, X', hL, e1, e2, ⟨v, hres, hv, ⟨w2, hw2, hP1, hD1⟩, hz, hk⟩, stp⟩ | ⟨q, st₀, t, T', L, E, ce, h0, X', hL, e1, e2, ⟨hres, ⟨w2, hw2, hP1, hD1⟩, hz, hk⟩, hce, hcv, hcl, stp⟩
  · cases hv
    rw [h0] at hz hk
    rw [← e1] at hz hk hP1
    obtain ⟨hP', hD'⟩ := va_join hP hD is isR hC hRs hnR hdis hk hF hP1 hD1
    have hS' : va_S A s.heap T'.heap (locs ++ L) := ⟨Nat.le_trans hS.1 hz, fun q h1 h2 => by rw [hk q (Nat.lt_of_lt_of_le h1 hS.1) (fun z => h2 (hF q z))]; exact hS.2.1 q h1 h2, fun q hq => by
      rcases List.mem_append.mp hq with h | h
      · exact hS.2.2 q h
      · exact hF _ (hL q h)⟩
    obtain ⟨t2, a1, b1⟩ := kk v hres w2 hw2 T'.heap (locs ++ L) ls hP' hD' hS' hl T' rfl X'
    exact ⟨t2, stp t2 a1, b1⟩
  · rw [h0] at hz hk
    rw [← e1] at hz hk hP1 hce
    obtain ⟨hP', hD'⟩ := va_join hP hD is isR hC hRs hnR hdis hk hF hP1 hD1
    have hS' : va_S A s.heap T'.heap (locs ++ L) := ⟨Nat.le_trans hS.1 hz, fun q h1 h2 => by rw [hk q (Nat.lt_of_lt_of_le h1 hS.1) (fun z => h2 (hF q z))]; exact hS.2.1 q h1 h2, fun q hq => by
      rcases List.mem_append.mp hq with h | h
      · exact hS.2.2 q h
      · exact hF _ (hL q h)⟩
    obtain ⟨t2, a1, b1⟩ := kx E hres w2 hw2 T'.heap (locs ++ L) ls q ce hP' hD' hS' hl hce hcv hcl T' rfl X'
    exact ⟨t2, stp.trans a1, b1⟩
end CallX
end GRows6
