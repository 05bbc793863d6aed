theorem lst_push (L : List Nat) (v : Nat) : va_up (fun j => L[j]?) L.length (some v) = fun j => (L ++ [v])[j]? := by
  funext j
  unfold va_up
  by_cases hj : j = L.length
  · subst hj
    rw [if_pos rfl]
    simp
  · rw [if_neg hj]
    show L[j]? = (L ++ [v])[j]?
    rcases Nat.lt_or_gt_of_ne hj with h | h
    · rw [List.getElem?_append_left h]
    · have h1 : L[j]? = none := List.getElem?_eq_none (by omega)
      have h2 : (L ++ [v])[j]? = none := List.getElem?_eq_none (by rw [List.length_append]; show L.length + 1 ≤ j; omega)
      rw [h1, h2]
theorem lst_none : (fun _ => none : Nat → Option Nat) = fun j => ([] : List Nat)[j]? := by
  funext j
  simp
section GRows5
variable {p : Program} {l : Launch} {e : Env} {R : Room} {s : State} {m : MethodId} {args : Array Value} {below : List Frame} {meth : Method} {c : Code} {cells slots : Nat} {Q : State → Prop}
variable {cc : ByteArray} {nL : Nat} {own : String} {Ts : List Cond} {D : va_G} {tys : List (ClassId × FieldType)} {A : Nat → Prop} {ws ws' : va_W} {lv lv' : List (Nat × Value)} {pc : Nat} {st : List Value}
/-- a contract of a constructor: cells are made -/
def gPc (D : va_G) (tys : List (ClassId × FieldType)) (av : List Value) (ws0 : va_W) (sz : Nat) : Array Value → State → Prop := va_Pc av (fun U => (U.heap.size = sz ∧ va_P D vwCl ws0 U.heap ∧ va_K D vwCl tys U ∧ va_D (fun _ => True) ws0 ∧ xN U) ∧ va_AO RX2 U)
def KC (l : Launch) (y : MethodName) (w : List Cond) (rm : Room) (D : va_G) (tys : List (ClassId × FieldType)) (av : List Value) (ws0 : va_W) (WW : va_W → Prop) (mc ms : Nat) : Prop :=
  ∀ sz : Nat, Met l y w rm (gPc D tys av ws0 sz) (gQ D (va_A ws0 sz) none WW) mc ms (va_A ws0 sz)
theorem g_entryC {y : MethodName} {w w' : List Cond} {rm : Room} {av : List Value} {ws0 : va_W} {WW : va_W → Prop} {mc ms : Nat} {cc : ByteArray} {nL : Nat} {rt : Option FieldType}
    (hy : plainName y.cls = true) (hw : w = Cond.code y cc nL rt :: w') (hL : (lg_sl av).length ≤ nL)
    (body : ∀ (p : Program) (e : Env) (s : State) (m : MethodId) (args : Array Value) (below : List Frame) (meth : Method) (c : Code) (A : Nat → Prop), GC p s m args c cc nL y.cls w D tys A → va_AO RX2 s → meth.sig.returnType = rt → meth.locks = false → meth.name = y.name →
      GG p l e rm s m args below meth c 0 0 (MQ below (gQ D A none WW) args s mc ms A) nL D A ws0 (lv_args 0 av) 0 []) : KC l y w rm D tys av ws0 WW mc ms := by
  intro sz
  refine Met.ofW hy hw ?_
  intro p e s m args below meth c s₁ B hml hv
  obtain ⟨rfl, ⟨hsz, hP, hK, hD0, hN⟩, hO⟩ := hv
  subst hsz
  rw [lg_entry_eq]
  exact body p e s m _ below meth c (va_A ws0 s.heap.size) ⟨B.exec, B.bytes, hml, findClass_of_methodNamed B.named, atoms_spec (ws := w) B.pre, hK, fun q h => Or.inr h, hN⟩ hO B.returns B.notSynchronized (name_of_methodNamed B.named B.method).1 s.heap [] _ hP hD0.self va_S.rf (lv_entry av hL)
theorem g_objI (X : GC p s m args c cc nL own Ts D tys A) {idx a : Nat} (h1 : Cond.methodLink own idx Lib.objectInit ∈ Ts) (h2 : Cond.instanceMethod Lib.objectInit ∈ Ts) (h3 : Cond.code Lib.objectInit ⟨#[0xb1]⟩ 1 none ∈ Ts) (hdg : decode cc pc = .ok (.invokespecial idx, 3)) (hf : 1 ≤ R.frames) (hr : (st.map fun v => v.category).sum + 12 ≤ R.locals) (kk : GG p l e R s m args below meth c cells slots Q nL D A ws lv (pc + 3) st) : GG p l e R s m args below meth c cells slots Q nL D A ws lv pc (.ref a :: st) := fun H locs ls hP hD hS hl =>
  W.objInit X.1 X.2.1 X.2.2.2.1 (X.2.2.2.2.1 _ h1) (X.2.2.2.2.1 _ h2) (X.2.2.2.2.1 _ h3) rfl (by rw [X.2.2.1]; exact hl.1) rfl hdg hf (by show 2 * 0 + _ + 12 ≤ _; omega) (W.eq (g2 := F0 m (pc + 3) ls st) rfl (kk H locs ls hP hD hS hl))
theorem g_newI {cI : ClassId} (X : GC p s m args c cc nL own Ts D tys A) (harr : Cond.arrayClass .int ∈ Ts) {n : Int32} {N cells' slots' : Nat} (hcI : tys[0]? = some (cI, .int)) (hn : ¬ n < 0) (hN : n.toNatClampNeg = N) (hb4 : N * 4 ≤ 536870912) (hc1 : cells + 1 = cells') (hs1 : slots + N = slots') (hcells : cells' ≤ R.cells) (hslots : slots' ≤ R.slots) (hdg : decode cc pc = .ok (.newarray .int, 2))
    (kk : ∀ q : Nat, GG p l e R s m args below meth c cells' slots' Q nL D A (ws ++ [(q, .inl (cI, N, .inl (fun _ => 0)))]) lv (pc + 2) (.ref q :: st)) : GG p l e R s m args below meth c cells slots Q nL D A ws lv pc (.int n :: st) := by
  subst hc1; subst hs1
  intro H locs ls hP hD hS hl
  refine va_newa (atype := .int) (ty := .int) (a0 := (N, .inl (fun _ => 0))) X.1 X.2.1 (X.2.2.2.2.1 _ harr) rfl X.2.2.2.2.2.1 hP hD hS X.2.2.2.2.2.2.1 (fun cA => rfl) hn hN hb4 hcells hslots hdg (fun q cA H1 hK1 hP1 hD1 hS1 => ?_)
  have e1 : va_RA s cA .int := (hK1.2 tys.length (cA, .int) (by simp)).2
  have e2 : va_RA s cI .int := (X.2.2.2.2.2.1.2 0 (cI, .int) hcI).2
  have e3 : cA = cI := Option.some.inj (Eq.trans (Eq.symm e1) e2)
  subst e3
  exact kk q H1 locs ls hP1 hD1 hS1 hl
theorem g_newQ {cS : ClassId} {C : String} (X : GC p s m args c cc nL own Ts D tys A) {index : Nat} (hcl : Cond.classLink own index C ∈ Ts) (hov : va_AO C s) {n : Int32} {N cells' slots' : Nat} (hcS : tys[1]? = some (cS, .object C)) (hn : ¬ n < 0) (hN : n.toNatClampNeg = N) (hb4 : N * 4 ≤ 536870912) (hc1 : cells + 1 = cells') (hs1 : slots + N = slots') (hcells : cells' ≤ R.cells) (hslots : slots' ≤ R.slots) (hdg : decode cc pc = .ok (.anewarray index, 3))
    (kk : ∀ q : Nat, GG p l e R s m args below meth c cells' slots' Q nL D A (ws ++ [(q, .inl (cS, N, .inr (.inr (.inr (.inr (fun j => ([] : List Nat)[j]?))))))]) lv (pc + 3) (.ref q :: st)) : GG p l e R s m args below meth c cells slots Q nL D A ws lv pc (.int n :: st) := by
  subst hc1; subst hs1
  intro H locs ls hP hD hS hl
  refine va_newq X.1 X.2.1 X.2.2.2.1 (X.2.2.2.2.1 _ hcl) hov X.2.2.2.2.2.1 hP hD hS X.2.2.2.2.2.2.1 hn hN hb4 hcells hslots hdg (fun q cA H1 hK1 hP1 hD1 hS1 => ?_)
  obtain ⟨-, -, -, -, -, e1⟩ : va_RA s cA (.object C) := (hK1.2 tys.length (cA, .object C) (by simp)).2
  obtain ⟨-, -, -, -, -, e2⟩ : va_RA s cS (.object C) := (X.2.2.2.2.2.1.2 1 (cS, .object C) hcS).2
  have e3 : cA = cS := Option.some.inj (e1.symm.trans e2)
  subst e3
  rw [lst_none] at hP1 hD1
  exact kk q H1 locs ls hP1 hD1 hS1 hl
theorem g_newO (X : GC p s m args c cc nL own Ts D tys A) {ci index : Nat} {C : String} {T : u_T} {N cells' slots' : Nat} {fs : List Value} {ty0 : Nat → FieldType} (hty : ∀ k, k < N → parseFieldDescriptor (T k).2.2.1 = some (ty0 k)) (hin : ∀ w ∈ u_ws C T N, w ∈ Ts) (hcl : Cond.classLink own index C ∈ Ts) (hin2 : Cond.instantiable C N ∈ Ts) (hini : Cond.initialized C ∈ Ts) (hc : vwCl[ci]? = some (C, T, N)) (hfs : ∀ j, j < N → defaultValue (ty0 j) = vp_V fs j) (hc1 : cells + 1 = cells') (hs1 : slots + N = slots') (hcells : cells' ≤ R.cells) (hslots : slots' ≤ R.slots) (hdg : decode cc pc = .ok (.new index, 3))
    (kk : ∀ q : Nat, GG p l e R s m args below meth c cells' slots' Q nL D A (ws ++ [(q, .inr (ci, fs))]) lv (pc + 3) (.ref q :: st)) : GG p l e R s m args below meth c cells slots Q nL D A ws lv pc st := by
  subst hc1; subst hs1
  exact fun H locs ls hP hD hS hl => va_new X.1 X.2.1 X.2.2.2.2.1 hin ty0 hty X.2.2.2.1 (X.2.2.2.2.1 _ hcl) (X.2.2.2.2.1 _ hin2) (X.2.2.2.2.1 _ hini) X.2.2.2.2.2.1 hP hD hS X.2.2.2.2.2.2.1 hc hfs hcells hslots hdg (fun q H1 hP1 hD1 hS1 => kk q H1 locs ls hP1 hD1 hS1 hl)
theorem g_putF (X : GC p s m args c cc nL own Ts D tys A) (hin2 : meth.name = "<init>") {a q0 k ci index : Nat} {C : String} {T : u_T} {N : Nat} {fs : List Value} {v : Value} {ty0 : Nat → FieldType} (hty : ∀ k, k < N → parseFieldDescriptor (T k).2.2.1 = some (ty0 k)) (hnm : ∀ a, a < N → ∀ b, b < N → a ≠ b → (T a).2.1 ≠ (T b).2.1) (hin : ∀ w ∈ u_ws C T N, w ∈ Ts) (hlink : Cond.fieldLink own index (T k).1 (T k).2.1 (T k).2.2.1 ∈ Ts) (he : ws[q0]? = some (a, .inr (ci, fs))) (hc : vwCl[ci]? = some (C, T, N)) (hk : k < N) (hfin : (T k).2.2.2 = true) (hdecl : (T k).1 = own) (hn : narrow (ty0 k) v = v) (hfit : fits (ty0 k) v = true) (hl : k < fs.length) (hdg : decode cc pc = .ok (.putfield index, 3)) (hws : ws.set q0 (a, .inr (ci, fs.set k v)) = ws') (kk : GG p l e R s m args below meth c cells slots Q nL D A ws' lv (pc + 3) st) : GG p l e R s m args below meth c cells slots Q nL D A ws lv pc (v :: .ref a :: st) := fun H locs ls hP hD hS h => va_putF (D := D) X.1 X.2.1 X.2.2.2.2.1 hin ty0 hty hnm X.2.2.2.1 X.2.2.2.2.2.1 hP hD hS q0 he hc k hk (X.2.2.2.2.1 _ hlink) (fun _ h => h) hfin hin2 hdecl (hty k hk) hn hfit hl hdg (fun H1 locs1 hP hD hS => kk H1 locs1 ls (hws ▸ hP) (hws ▸ hD) hS h)
theorem g_aastP (X : GC p s m args c cc nL own Ts D tys A) {a q0 t0 qk ci : Nat} {cA : ClassId} {r : vw_C} {n v : Nat} {vs : List Value} {L : List Nat} {i : Int32} (ha : ws[q0]? = some (a, .inl (cA, n, .inr (.inr (.inr (.inr (fun j => L[j]?))))))) (ht : tys[t0]? = some (cA, .object r.1)) (hv : ws[qk]? = some (v, .inr (ci, vs))) (hc : vwCl[ci]? = some r) (hin : ¬ (i < 0 ∨ n ≤ i.toNatClampNeg)) (hL : i.toNatClampNeg = L.length) (hws : ws.set q0 (a, .inl (cA, n, .inr (.inr (.inr (.inr (fun j => (L ++ [v])[j]?)))))) = ws') (hdg : decode cc pc = .ok (.aastore, 1)) (kk : GG p l e R s m args below meth c cells slots Q nL D A ws' lv (pc + 1) st) : GG p l e R s m args below meth c cells slots Q nL D A ws lv pc (.ref v :: .int i :: .ref a :: st) := fun H locs ls hP hD hS hl =>
  va_astq (D := D) X.1 X.2.1 X.2.2.2.2.2.1 hP hD hS q0 t0 qk ci ha ht hv hc hin hdg (fun H1 locs1 hP hD hS => by
    rw [hL, lst_push L v, hws] at hP hD
    exact kk H1 locs1 ls hP hD hS hl)
theorem gPc_blind {av : List Value} {ws0 : va_W} {sz : Nat} : FrameBlind (gPc D tys av ws0 sz) := fun a U g mk q => by
  obtain ⟨q0, ⟨q1, qP, qK, qD, qN⟩, qO⟩ := q
  exact ⟨q0, ⟨q1, qP, va_K.moved (u := U) (U := U.calling g mk a) (Vm.Alike.refl U.vm) qK, qD, va_Nw.same rfl rfl qN.1, va_Nw.same rfl rfl qN.2⟩, va_AO.moved (Vm.Alike.refl U.vm) qO⟩
section CallI
variable {y : MethodName} {bytes : ByteArray} {maxL index : Nat} {w w' : List Cond} {rm : Room} {wc wr : va_W} {is isR : List Nat} {WW : va_W → Prop}
/-- invokespecial of a constructor without arguments -/
theorem g_callI {b mc ms cells' slots' : Nat} (X : GC p s m args c cc nL own Ts D tys A) (hO : va_AO RX2 s) (hM : KC l y w rm D tys [.ref b] wc WW mc ms) (hg : GoodIn Ts w) (hlk : Cond.methodLink own index y ∈ Ts) (him : Cond.instanceMethod y ∈ Ts) (hini : Cond.initialized y.cls ∈ Ts) (hy : y.name = "<init>") (hw : w = Cond.code y bytes maxL none :: w') (hrm : rm.cells = mc ∧ rm.slots = ms)
    (hd : y.cls ≠ "java/lang/invoke/MethodHandle" ∧ y.cls ≠ "java/lang/invoke/VarHandle" ∧ (parseMethodDescriptor y.desc).map (fun d => d.parameters.length) = some 0) (hR : rm.frames + 1 ≤ R.frames ∧ 8 + (maxL + 11) + rm.locals ≤ R.locals) (hc1 : cells + mc = cells') (hs1 : slots + ms = slots') (hf : cells' ≤ R.cells ∧ slots' ≤ R.slots)
    (hC : wpick ws is = wc.map some) (hn : va_nd is = true) (hRs : wpick ws isR = wr.map some) (hnR : va_nd isR = true) (hdis : ∀ i ∈ isR, i ∉ is) (hsum : (st.map fun v => v.category).sum ≤ 8)
    (hdg : decode cc pc = .ok (.invokespecial index, 3)) (kk : ∀ w1, WW w1 → GG p l e R s m args below meth c cells' slots' Q nL D A (wr ++ w1) lv (pc + 3) st) : GG p l e R s m args below meth c cells slots Q nL D A ws lv pc (.ref b :: st) := by
  subst hc1; subst hs1
  intro H locs ls hP hD hS hl
  have hPc : va_P D vwCl wc H := fun k q hq => by
    obtain ⟨i, -, h2⟩ := wpick_get' hC hq
    exact hP i q h2
  have hDc : va_D A wc := hD.sub is hn hC
  have hpre : PreS s H (gPc D tys [.ref b] wc H.size) [.ref b] := ⟨gPc_blind, fun U hU hW => ⟨rfl, ⟨by rw [hU], by rw [hU]; exact hPc, va_K.moved hW.alike X.2.2.2.2.2.1, hDc.weaken (fun _ _ _ _ => trivial), X.2.2.2.2.2.2.2.warm hW⟩, va_AO.moved hW.alike hO⟩⟩
  have hr : va_Run p l e R s m args below meth c H locs cells slots mc ms (F0 m pc ls (.ref b :: st)) st (gQ D (va_A wc H.size) none WW ([Value.ref b] : List Value).toArray) (va_A wc H.size) := va_runI (As := []) (rest := st) ⟨X.1, X.2.1, X.2.2.1, X.2.2.2.1, X.2.2.2.2.1⟩ (hM H.size) (cwI 0 X.2.2.2.2.1 hg hw hrm.1 hrm.2 (X.2.2.2.2.1 _ hini) (X.2.2.2.2.1 _ hlk) (X.2.2.2.2.1 _ him) hy hd hR) hpre rfl rfl hl.1 rfl (lv_room hsum) hdg hf
  have hF := va_free (wc := wc) hD hS X.2.2.2.2.2.2.1 is hC
  intro T hT XT
  obtain ⟨v', st₀, t, T', L, h0, X', hL, e1, e2, ⟨hv, ⟨w2, hw2, hP1, hD1⟩, hz, hk⟩, stp⟩ := hr T hT XT
  cases hv
  rw [h0] at hz hk
  rw [← e1] at hz hk hP1
  obtain ⟨hP', hD'⟩ := va_join hP hD is isR hC hRs hnR hdis hk hF hP1 hD1
  have hS' : va_S A s.heap T'.heap (locs ++ L) := ⟨Nat.le_trans hS.1 hz, fun q h1 h2 => by rw [hk q (Nat.lt_of_lt_of_le h1 hS.1) (fun z => h2 (hF q z))]; exact hS.2.1 q h1 h2, fun q hq => by
    rcases List.mem_append.mp hq with h | h
    · exact hS.2.2 q h
    · exact hF _ (hL q h)⟩
  obtain ⟨t2, a1, b1⟩ := kk w2 hw2 T'.heap (locs ++ L) ls hP' hD' hS' hl T' rfl X'
  exact ⟨t2, stp t2 a1, b1⟩
end CallI
end GRows5
