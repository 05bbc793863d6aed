/-! THE CLAIM OUT OF ONE WALK OF THE LAW'S BODY. Your part is whole_start (and what it stands on); all else here is the same for every law, but numbers. -/
def R_law : String := "ColophonHuntLaw"
def lw_P (b : Addr) (xs : List Int32) (args : Array Value) (s : State) : Prop := args = #[.ref b] ∧ s.IntsAt b xs ∧ xs.length ≤ 260 ∧ (Jvm.Cond.and given_1 narrow_1).before args s = true
def lw_Q (_ : Array Value) (s : State) (o : Outcome) (t : State) : Prop := o = .returned (some (.int 1)) ∧ Framed s o t [] 600104 7301314
def lw_Z (below : List Frame) (a : Array Value) (s : State) : State → Prop := fun t => ∃ o, t.status = .running ∧ Ended t below o ∧ lw_Q a s o t
/-- the law's own end, with 1 on the stack, nothing written that was there before, its room as the claim has it -/
theorem lw_ret {p : Program} {l : Launch} {e : Env} {s : State} {m : MethodId} {below : List Frame} {meth : Method} {c : Code} {b : Nat} (hx : p.tables.exec = Jvm.exec) (hb : c.code = code) (hr : meth.sig.returnType = ret) (hlocks : meth.locks = false) {pc : Nat} {H : Heap} {ls : Array Slot} (hdg : decode code pc = .ok (.ireturn, 1)) : W p l e room_1 s m #[Value.ref b] below meth c H [] 600104 7301314 (lw_Z below #[Value.ref b] s) (F0 m pc ls [.int 1]) := by
  intro T hT X
  obtain ⟨fs, hret, hrun, hended, hW, hframe⟩ := X.leave (v := some (.int 1)) (hlocks := hlocks) (fun h => by rw [hr] at h; cases h)
  have hmeth' : T.vm.method? m = some meth := X.method'
  refine ⟨T.setFrames fs, ?_, .returned (some (.int 1)), hrun, hended, rfl, ⟨_, rfl⟩, hW, hframe⟩
  jvm_step X.here [X.here.top, hx, hb, hdg, hmeth', hr, ret, narrow_b1]
  (try refine ⟨rfl, ?_⟩); (try refine ⟨rfl, ?_⟩)
  first | (intro acts; rw [hret _ acts rfl rfl rfl]) | rw [hret _ _ rfl rfl rfl]
  exact Steps.refl _
/-- what holds at the law's entry: the machine, the code, the tables' words (any of lw_tbl by 'hts w (by decide +kernel)'), the script of L ints xs at the cell b, what the Statement gives of the start (any of its parts by flat_of_before) -/
def lw_At (p : Program) (s : State) (m : MethodId) (meth : Method) (c : Code) (b L : Nat) (xs : Nat → Int32) : Prop :=
  p.tables.exec = Jvm.exec ∧ c.code = code ∧ meth.sig.returnType = ret ∧ c.maxLocals = 15 ∧ s.vm.findClass R_law = some m.cls ∧ (∀ w ∈ lw_tbl, w.before #[Value.ref b] s = true) ∧ va_X b L xs s s.heap ∧ b < s.heap.size ∧ meth.locks = false ∧ (Jvm.Cond.and given_1 narrow_1).before #[Value.ref b] s = true
/-- what a throw reads, at the law's entry -/
theorem lw_find {args : Array Value} {s : State} {i : Nat} {t : String} (h : (Cond.stringRef RX4 i t).before args s = true) : ∃ a, vk_R RX4 i t a s := by
  cases hk : s.vm.findClass RX4 with
  | none => simp [Cond.before, Cond.holds, Cond.value, hk] at h
  | some k =>
    obtain ⟨-, -, -, a, -, -, -, -, -, hev⟩ := Cond.stringRef_spec hk h
    exact ⟨a, vk_R.of h hev⟩
theorem lw_xT {s : State} {b : Nat} {A : Nat → Prop} (hA : ∀ a : Nat, a < s.heap.size → ¬ A a) (hts : ∀ w ∈ lw_tbl, w.before #[Value.ref b] s = true) (hgv : (Jvm.Cond.and given_1 narrow_1).before #[Value.ref b] s = true) : xT A s := by
  have hs := flat_of_before _ hgv
  refine ⟨vx_Zqof (hts _ (by decide +kernel)) (hts _ (by decide +kernel)) (hs _ (by decide +kernel)) hA, vx_Zqof (hts _ (by decide +kernel)) (hts _ (by decide +kernel)) (hs _ (by decide +kernel)) hA, ?_, ?_, ?_, ?_⟩
  · have h : ∀ E ∈ excs, Cond.castable E E ∈ lw_tbl := by decide +kernel
    exact fun E hE => va_Nw.of rfl (hts _ (h E hE))
  · have h : ∀ q ∈ strTab, Cond.stringRef RX4 q.1 q.2 ∈ lw_tbl := by decide +kernel
    exact fun q hq => lw_find (hts _ (h q hq))
  · intro E hE F hF hne
    simp only [excs, List.mem_cons, List.not_mem_nil, or_false] at hE hF
    subst hE; subst hF
    exact absurd rfl hne
  · have h : ∀ n ∈ dcl, Cond.declares (Bundle.initS n) ∈ lw_tbl := by decide +kernel
    exact fun n hn => va_Nw.of rfl (hts _ (h n hn))
theorem lw_known {s : State} {b : Nat} (hts : ∀ w ∈ lw_tbl, w.before #[Value.ref b] s = true) : ∃ D : va_G, ∀ (c : Nat) (q : vw_C), vwCl[c]? = some q → u_Kn s q.1 q.2.1 q.2.2 (D.1 c) (D.2 c) := by
  obtain ⟨d0, i0, k0⟩ := u_known (C := RX0) (T := TX0) (N := 2) (n := 2) hts inX0 (hts (.instantiable RX0 2) (by decide +kernel))
  obtain ⟨d1, i1, k1⟩ := u_known (C := RX1) (T := TX1) (N := 10) (n := 10) hts inX1 (hts (.instantiable RX1 10) (by decide +kernel))
  obtain ⟨d2, i2, k2⟩ := u_known (C := RX2) (T := TX2) (N := 5) (n := 5) hts inX2 (hts (.instantiable RX2 5) (by decide +kernel))
  obtain ⟨d3, i3, k3⟩ := u_known (C := RX3) (T := TX3) (N := 8) (n := 8) hts inX3 (hts (.instantiable RX3 8) (by decide +kernel))
  obtain ⟨d4, i4, k4⟩ := u_known (C := RX4) (T := TX4) (N := 9) (n := 9) hts inX4 (hts (.instantiable RX4 9) (by decide +kernel))
  refine ⟨(fun k => if k = 0 then d0 else if k = 1 then d1 else if k = 2 then d2 else if k = 3 then d3 else d4, fun k => if k = 0 then i0 else if k = 1 then i1 else if k = 2 then i2 else if k = 3 then i3 else i4), ?_⟩
  intro k q hq
  match k, hq with
  | 0, hq => cases hq; exact k0
  | 1, hq => cases hq; exact k1
  | 2, hq => cases hq; exact k2
  | 3, hq => cases hq; exact k3
  | 4, hq => cases hq; exact k4
  | k + 5, hq => simp [vwCl] at hq
theorem lw_LC {p : Program} {s : State} {m : MethodId} {meth : Method} {c : Code} {l : Launch} (hflags : l.flags = flags0) {b L : Nat} {xs : Nat → Int32} (C0 : lw_At p s m meth c b L xs) : ∃ (D : va_G) (cI cS cL : ClassId), GC p s m #[Value.ref b] c cL_law 15 RL wsL_law D (tyS cI cS cL) (fun q => s.heap.size ≤ q) ∧ xT (fun q => s.heap.size ≤ q) s ∧ l.stackTraces = false ∧ sX b L xs (fun q => s.heap.size ≤ q) s ∧ va_AO RX2 s := by
  obtain ⟨hx, hb, hr, hml, hown, hts, hX, hbl, hlocks, hgv⟩ := C0
  obtain ⟨D, hKc⟩ := lw_known hts
  obtain ⟨cI, cS, cL, hT⟩ := law_types (hts _ (by decide +kernel)) (hts (Cond.arrayOver (.object "ColophonHunt$Shelf")) (by decide +kernel))
  have hN : xN s := ⟨va_Nw.of rfl (hts _ (by decide +kernel)), va_Nw.of rfl (hts _ (by decide +kernel))⟩
  have hlt : l.stackTraces = false := by
    unfold Launch.stackTraces
    rw [hflags]
    decide +kernel
  exact ⟨D, cI, cS, cL, ⟨hx, hb, hml, hown, fun w h => hts w (wsL_law_in w h), ⟨hKc, hT⟩, fun _ h => h, hN⟩, lw_xT (fun a ha => Nat.not_le.mpr ha) hts hgv, hlt, ⟨hX, hbl, Nat.not_le.mpr hbl⟩, va_AO.of (hts (Cond.arrayOver (.object "ColophonHunt$Shelf")) (by decide +kernel))⟩
theorem mL_cl : Cond.classLink RL 10 RX4 ∈ wsL_law := by decide +kernel
theorem mL_is : Cond.instantiable RX4 9 ∈ wsL_law := by decide +kernel
theorem mL_in : Cond.initialized RX4 ∈ wsL_law := by decide +kernel
theorem mL_ml : Cond.methodLink RL 78 yX4_init ∈ wsL_law := by decide +kernel
theorem mL_im : Cond.instanceMethod yX4_init ∈ wsL_law := by decide +kernel
theorem mL_yi : Cond.initialized yX4_init.cls ∈ wsL_law := by decide +kernel
theorem st_0 : ∃ n h, (0 : Int32) = nI n ∧ (0 : Int32) = nI h ∧ shC n (fun _ => 0) (fun _ => 0) (fun _ => 0) (fun _ => 0) ∧ hiC h (fun _ => 0) (fun _ _ => 0) (fun _ _ => 0) (fun _ _ => 0) (fun _ _ => 0) ∧ rsG (eB (fun _ => 0) (fun _ => 0) (fun _ => 0) (fun _ => 0)) n (fun _ => 0) 1 0 1 0 (fun _ => 0) (fun _ => 0) (fun _ => 0) (fun _ => 0) (fun _ => 0) (fun _ => 0) (fun _ => 0) :=
  ⟨0, 0, nI_0.symm, nI_0.symm, ⟨by decide, fun b hb => absurd hb (Nat.not_lt_zero b), fun b hb => absurd hb (Nat.not_lt_zero b), fun b hb => absurd hb (Nat.not_lt_zero b)⟩, ⟨by decide, fun b hb => absurd hb (Nat.not_lt_zero b)⟩, rsG_1⟩
