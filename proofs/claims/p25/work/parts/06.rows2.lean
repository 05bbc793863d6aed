abbrev excN : List String := ["java/lang/RuntimeException", "java/lang/Exception"]
abbrev excs : List String := ["java/lang/IllegalStateException"]
abbrev strTab : List (Nat × String) := [(80, "there are 10 books"), (169, "there is no saved state")]
abbrev dcl : List String := ["java/lang/RuntimeException", "java/lang/Exception", Bundle.tN]
abbrev badW (cls : String) : List Cond := [.castable cls cls, .declares (Bundle.initS "java/lang/RuntimeException"), .declares (Bundle.initS "java/lang/Exception"), .declares (Bundle.initS Bundle.tN)]
/-- what a throw reads: two statics, each exception's own castability, the texts; and that no exception is another -/
def xT (A : Nat → Prop) (U : State) : Prop := vx_Zq Bundle.tN "UNASSIGNED_STACK" Bundle.steD A U U.heap ∧ vx_Zq Bundle.tN "SUPPRESSED_SENTINEL" Bundle.listD A U U.heap ∧ (∀ E ∈ excs, va_Nw (.castable E E) U) ∧ (∀ q ∈ strTab, ∃ a, vk_R RX4 q.1 q.2 a U) ∧ (∀ E ∈ excs, ∀ F ∈ excs, E ≠ F → va_Nc E F U) ∧ ∀ n ∈ dcl, va_Nw (.declares (Bundle.initS n)) U
theorem xT.at {A B : Nat → Prop} {s U : State} {H : Heap} {locs : List Loc} (h : xT A s) (hW : s.WarmedH U.vm) (hU : U.heap = H) (hS : va_S A s.heap H locs) (hB : ∀ q, B q → A q) : xT B U := by
  obtain ⟨h1, h2, h3, h4, h5, h6⟩ := h
  refine ⟨?_, ?_, fun E hE => va_Nw.warmC hW (h3 E hE), fun q hq => (h4 q hq).imp fun a ha => ha.warm hW, fun E hE F hF hne => va_Nc.moved hW.alike (h5 E hE F hF hne), fun n hn => va_Nw.warmD hW (h6 n hn)⟩
  · rw [hU]
    exact ((h1.kept hS.2.1).narrow hB).moved hW.alike
  · rw [hU]
    exact ((h2.kept hS.2.1).narrow hB).moved hW.alike
theorem xT.call {A : Nat → Prop} {U : State} {g : JFrame} {mk : MethodId} {a : Array Value} (h : xT A U) : xT A (U.calling g mk a) := by
  obtain ⟨h1, h2, h3, h4, h5, h6⟩ := h
  exact ⟨h1.moved (Vm.Alike.refl U.vm), h2.moved (Vm.Alike.refl U.vm), fun E hE => va_Nw.same rfl rfl (h3 E hE), fun q hq => (h4 q hq).imp fun a ha => ha.same rfl, fun E hE F hF hne => va_Nc.moved (Vm.Alike.refl U.vm) (h5 E hE F hF hne), fun n hn => va_Nw.same rfl rfl (h6 n hn)⟩
def gT (D : va_G) (A : Nat → Prop) (res : Int32 ⊕ String) (WW : va_W → Prop) : String → State → State → Prop := fun E st t => res = .inr E ∧ (∃ w1, WW w1 ∧ va_P D vwCl w1 t.heap ∧ va_D A w1) ∧ va_F A st t
def gV (D : va_G) (A : Nat → Prop) (res : Int32 ⊕ String) (WW : va_W → Prop) : Array Value → State → Outcome → State → Prop := fun a st oc t => ∃ v, res = .inl v ∧ gQ D A (some (.int v)) WW a st oc t
def gPx (D : va_G) (tys : List (ClassId × FieldType)) (av : List Value) (ws0 : va_W) (sz : Nat) : Array Value → State → Prop := va_Pc av (fun U => (U.heap.size = sz ∧ va_P D vwCl ws0 U.heap ∧ va_K D vwCl tys U ∧ va_D (fun _ => True) ws0 ∧ xN U) ∧ xT (va_A ws0 sz) U)
/-- a contract: it returns an int, or throws -/
def KX (l : Launch) (y : MethodName) (w : List Cond) (rm : Room) (D : va_G) (tys : List (ClassId × FieldType)) (av : List Value) (ws0 : va_W) (res : Int32 ⊕ String) (WW : va_W → Prop) : Prop :=
  ∀ sz : Nat, vx_Met l y w rm (gPx D tys av ws0 sz) (gV D (va_A ws0 sz) res WW) (gT D (va_A ws0 sz) res WW) 1 6 (va_A ws0 sz)
theorem hgood_72 : ∀ w ∈ Cond.classLink RX4 68 "java/lang/IllegalArgumentException" :: Cond.initialized "java/lang/IllegalArgumentException" :: vx_atS RX4 72 "java/lang/IllegalArgumentException" excN, vx_ot w = true := by decide +kernel
theorem hgood_82 : ∀ w ∈ Cond.classLink RX4 78 "java/lang/IllegalStateException" :: Cond.initialized "java/lang/IllegalStateException" :: vx_atS RX4 82 "java/lang/IllegalStateException" excN, vx_ot w = true := by decide +kernel
theorem hgood_97 : ∀ w ∈ Cond.classLink RX4 93 "java/lang/IndexOutOfBoundsException" :: Cond.initialized "java/lang/IndexOutOfBoundsException" :: vx_atS RX4 97 "java/lang/IndexOutOfBoundsException" excN, vx_ot w = true := by decide +kernel
theorem hbad_72 : ∀ w ∈ (vx_atS RX4 72 "java/lang/IllegalArgumentException" excN).filter (fun w => !goodWord w), w ∈ badW "java/lang/IllegalArgumentException" := by decide +kernel
theorem hbad_82 : ∀ w ∈ (vx_atS RX4 82 "java/lang/IllegalStateException" excN).filter (fun w => !goodWord w), w ∈ badW "java/lang/IllegalStateException" := by decide +kernel
theorem hbad_97 : ∀ w ∈ (vx_atS RX4 97 "java/lang/IndexOutOfBoundsException" excN).filter (fun w => !goodWord w), w ∈ badW "java/lang/IndexOutOfBoundsException" := by decide +kernel
section GRows2
variable {p : Program} {l : Launch} {e : Env} {R : Room} {s : State} {m : MethodId} {args : Array Value} {below : List Frame} {meth : Method} {c : Code} {cells slots : Nat} {Q : State → Prop}
variable {cc : ByteArray} {nL : Nat} {own : String} {Ts : List Cond} {D : va_G} {tys : List (ClassId × FieldType)} {A : Nat → Prop} {ws ws' : va_W} {lv lv' : List (Nat × Value)} {pc : Nat} {st : List Value}
theorem g_raw (X : GC p s m args c cc nL own Ts D tys A) {index : Nat} {b : UInt64} (h1 : Cond.methodLink own index ⟨"java/lang/Double", "doubleToRawLongBits", "(D)J"⟩ ∈ Ts) (h2 : Cond.native ⟨"java/lang/Double", "doubleToRawLongBits", "(D)J"⟩ ∈ Ts) (h3 : Cond.static ⟨"java/lang/Double", "doubleToRawLongBits", "(D)J"⟩ ∈ Ts) (h4 : Cond.initialized "java/lang/Double" ∈ Ts) (hf : 1 ≤ R.frames) (hr : (st.map fun v => v.category).sum + 15 ≤ R.locals) (hdg : decode cc pc = .ok (.invokestatic index, 3)) (kk : GG p l e R s m args below meth c cells slots Q nL D A ws lv (pc + 3) (.long b.toInt64 :: st)) : GG p l e R s m args below meth c cells slots Q nL D A ws lv pc (.double b :: st) := fun H locs ls hP hD hS hl =>
  vn_d2l X.1 X.2.1 (by rw [X.2.2.1]; exact hl.1.symm) X.2.2.2.1 (X.2.2.2.2.1 _ h1) (X.2.2.2.2.1 _ h2) (X.2.2.2.2.1 _ h3) (X.2.2.2.2.1 _ h4) hf hr hdg (kk H locs ls hP hD hS hl)
/-- the entry of a method that may throw -/
theorem g_entryX {y : MethodName} {w w' : List Cond} {rm : Room} {av : List Value} {ws0 : va_W} {res : Int32 ⊕ String} {WW : va_W → Prop} {cc : ByteArray} {nL : Nat} {rt : Option FieldType}
    (hy : plainName y.cls = true) (hw : w = Cond.code y cc nL rt :: w') (hL : (lg_sl av).length ≤ nL)
    (body : ∀ (p : Program) (e : Env) (s : State) (m : MethodId) (args : Array Value) (below : List Frame) (meth : Method) (c : Code) (A : Nat → Prop), GC p s m args c cc nL y.cls w D tys A → xT A s → (∀ x ∈ c.exceptionTable.toList, False) → meth.sig.returnType = rt → meth.locks = false →
      GG p l e rm s m args below meth c 0 0 (vx_MQ below (gV D A res WW) (gT D A res WW) args s 1 6 A) nL D A ws0 (lv_args 0 av) 0 []) : KX l y w rm D tys av ws0 res WW := by
  intro sz
  refine vx_ofW hy hw ?_
  intro p e s m args below meth c s₁ B hml hex hv
  obtain ⟨rfl, ⟨hsz, hP, hK, hD0, hN⟩, hT⟩ := hv
  subst hsz
  rw [lg_entry_eq]
  exact body p e s m _ below meth c (va_A ws0 s.heap.size) ⟨B.exec, B.bytes, hml, findClass_of_methodNamed B.named, atoms_spec (ws := w) B.pre, hK, fun q h => Or.inr h, hN⟩ hT hex B.returns B.notSynchronized s.heap [] _ hP hD0.self va_S.rf (lv_entry av hL)
theorem g_xiret {res : Int32 ⊕ String} {WW : va_W → Prop} (X : GC p s m args c cc nL own Ts D tys A) {v : Int32} (hr : meth.sig.returnType = some .int) (hlk : meth.locks = false) (hdg : decode cc pc = .ok (.ireturn, 1)) (hv : res = .inl v) (hW : WW ws) : GG p l e R s m args below meth c 0 0 (vx_MQ below (gV D A res WW) (gT D A res WW) args s 1 6 A) nL D A ws lv pc [.int v] :=
  fun H locs ls hP hD hS hl => vx_ret (W.widen (k := 1) (n := 6) (Nat.zero_le _) (Nat.zero_le _) (W.iret X.1 X.2.1 hr (fun t ht hw => ⟨v, hv, g_endQ X hW hP hD hS ht hw⟩) hS.2.2 hdg hlk))
theorem g_throw {res : Int32 ⊕ String} {WW : va_W → Prop} (X : GC p s m args c cc nL RX4 Ts D tys A) (Y : xT A s) (hlt : l.stackTraces = false) (hex : ∀ x ∈ c.exceptionTable.toList, False) (hlk : meth.locks = false) {ik is ic : Nat} {cls text : String} (hcls : Bundle.fit cls = true) (hin : cls ∈ excs) (hk : Cond.classLink RX4 ik cls ∈ Ts) (hini : Cond.initialized cls ∈ Ts) (hstr : (is, text) ∈ strTab)
    (hgw : ∀ w ∈ (vx_atS RX4 ic cls excN).filter goodWord, w ∈ Ts) (hbad : ∀ w ∈ (vx_atS RX4 ic cls excN).filter (fun w => !goodWord w), w ∈ badW cls) (hgood : ∀ w ∈ Cond.classLink RX4 ik cls :: Cond.initialized cls :: vx_atS RX4 ic cls excN, vx_ot w = true)
    (d0 : decode cc pc = .ok (.new ik, 3)) (d3 : decode cc (pc + 3) = .ok (.dup, 1)) (d4 : decode cc (pc + 4) = .ok (.ldc is, 2)) (d6 : decode cc (pc + 6) = .ok (.invokespecial ic, 3)) (d9 : decode cc (pc + 9) = .ok (.athrow, 1))
    (hRf : 5 < R.frames) (hRl : (st.map fun v => v.category).sum + 82 ≤ R.locals) (hRc : 1 ≤ R.cells) (hRs : 6 ≤ R.slots) (hres : res = .inr cls) (hW : WW ws) : GG p l e R s m args below meth c 0 0 (vx_MQ below (gV D A res WW) (gT D A res WW) args s 1 6 A) nL D A ws lv pc st := by
  intro H locs ls hP hD hS hl
  obtain ⟨sa, hsa⟩ := Y.2.2.2.1 _ hstr
  refine vx_throwS (names := excN) X.1 X.2.1 hlt X.2.2.2.1 hcls (by decide +kernel) (X.2.2.2.2.1 _ hk) (X.2.2.2.2.1 _ hini) hsa ?_ hgood Y.1 Y.2.1 hS (hl.1.trans X.2.2.1.symm) d0 d3 d4 d6 d9 (fun x hx => (hex x hx).elim) hRf hRl hRc hRs hlk ?_ hS.2.2 (Nat.le_refl _) (Nat.le_refl _)
  · exact vx_hat (fun w hw => X.2.2.2.2.1 w (hgw w hw)) hbad (vx_c (va_Nw.use rfl (Y.2.2.1 cls hin)) (vx_c (va_Nw.use rfl (Y.2.2.2.2.2 _ List.mem_cons_self)) (vx_c (va_Nw.use rfl (Y.2.2.2.2.2 _ (List.mem_cons_of_mem _ List.mem_cons_self))) (vx_c (va_Nw.use rfl (Y.2.2.2.2.2 _ (List.mem_cons_of_mem _ (List.mem_cons_of_mem _ List.mem_cons_self)))) vx_n))))
  · intro t ha hz hq
    refine ⟨hres, ⟨ws, hW, hP.kept (fun k q hk => hq q.1 (hP k q hk).lt), hD⟩, Nat.le_trans hS.1 hz, fun q h1 h2 => ?_⟩
    rw [hq q (Nat.lt_of_lt_of_le h1 hS.1)]
    exact hS.2.1 q h1 h2
end GRows2
