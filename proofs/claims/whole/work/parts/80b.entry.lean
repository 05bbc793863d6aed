/-! THE CLAIM OUT OF ONE WALK OF THE LAW'S BODY. Your part is whole_start (and what it stands on); all else here is the same for every law, but numbers. -/
def R_law : String := "ColophonHuntLaw"
def lw_P (b : Addr) (xs : List Int32) (args : Array Value) (s : State) : Prop := args = #[.ref b] ∧ s.IntsAt b xs ∧ xs.length ≤ 2560 ∧ (Jvm.Cond.and given_1 narrow_1).before args s = true
/-- what a walk over the start with the record d0 says of its end, said of the start itself -/
theorem lw_closed {s t : State} {o : Outcome} {d0 : Drawn} {L : List Loc} {k n : Nat} (hd0 : s.drawn.sameBut d0 lw_cs) (hv : ∃ v, o = .returned v) (hW : (s.setDrawn d0).WarmedH t.vm) (hs : (s.setDrawn d0).sameButNew ({ t with vm := s.vm } : State) L k n) : State.butDraws s t lw_cs (fun t1 => Framed s o t1 L k n) := by
  have h2 : t.drawn = d0 := congrArg State.drawn hs.1
  refine ⟨⟨hv, hW, State.sameButNew.setDrawn hs s.drawn⟩, ?_, by decide⟩
  rw [h2]
  exact hd0
def lw_Q (_ : Array Value) (s : State) (o : Outcome) (t : State) : Prop := o = .returned (some (.int 1)) ∧ State.butDraws s t lw_cs (fun t1 => Framed s o t1 [] 601024 7293034)
def lw_Z (below : List Frame) (a : Array Value) (s : State) : State → Prop := fun t => ∃ o, t.status = .running ∧ Ended t below o ∧ lw_Q a s o t
/-- the law's own end, with 1 on the stack, nothing written that was there before, its room as the claim has it; d0: the record of draws at this point (at the entry s.drawn: begin with 'refine W.base ?_' and 'have hd0 := Drawn.sameBut.refl s.drawn lw_cs') -/
theorem lw_ret {p : Program} {l : Launch} {e : Env} {s : State} {m : MethodId} {below : List Frame} {meth : Method} {c : Code} {b : Nat} {d0 : Drawn} (hd0 : s.drawn.sameBut d0 lw_cs) (hx : p.tables.exec = Jvm.exec) (hb : c.code = code) (hr : meth.sig.returnType = ret) (hlocks : meth.locks = false) {pc : Nat} {H : Heap} {ls : Array Slot} (hdg : decode code pc = .ok (.ireturn, 1)) : W p l e room_1 (s.setDrawn d0) m #[Value.ref b] below meth c H [] 601024 7293034 (lw_Z below #[Value.ref b] s) (F0 m pc ls [.int 1]) := by
  intro T hT X
  obtain ⟨fs, hret, hrun, hended, hW, hframe⟩ := X.leave (v := some (.int 1)) (hlocks := hlocks) (fun h => by rw [hr] at h; cases h)
  have hmeth' : T.vm.method? m = some meth := X.method'
  refine ⟨T.setFrames fs, ?_, .returned (some (.int 1)), hrun, hended, rfl, lw_closed hd0 ⟨_, rfl⟩ hW hframe⟩
  jvm_step X.here [X.here.top, hx, hb, hdg, hmeth', hr, ret, narrow_b1]
  (try refine ⟨rfl, ?_⟩); (try refine ⟨rfl, ?_⟩)
  first | (intro acts; rw [hret _ acts rfl rfl rfl]) | rw [hret _ _ rfl rfl rfl]
  exact Steps.refl _
/-- what holds at the law's entry: the machine, the code, the tables' words (any of lw_tbl by 'hts w (by decide +kernel)'), the script of L ints xs at the cell b, what the Statement gives of the start (any of its parts by flat_of_before) -/
def lw_At (p : Program) (s : State) (m : MethodId) (meth : Method) (c : Code) (b L : Nat) (xs : Nat → Int32) : Prop :=
  p.tables.exec = Jvm.exec ∧ c.code = code ∧ meth.sig.returnType = ret ∧ c.maxLocals = 9 ∧ s.vm.findClass R_law = some m.cls ∧ (∀ w ∈ lw_tbl, w.before #[Value.ref b] s = true) ∧ va_X b L xs s s.heap ∧ b < s.heap.size ∧ meth.locks = false ∧ (Jvm.Cond.and given_1 narrow_1).before #[Value.ref b] s = true
theorem st_0 : stR 0 1 0 0 (fun _ => 0) (fun _ => 0) (fun _ => 0) (fun _ => 0) (fun _ => 0) (fun _ _ => 0) (fun _ _ => 0) (fun _ _ => 0) (fun _ _ => 0) (fun _ => 0) (fun _ => 0) 0 1 0 (fun _ => 0) (fun _ => 0) (fun _ => 0) (fun _ => 0) (fun _ => 0) (fun _ => 0) (fun _ => 0) :=
  ⟨0, 0, nI_0.symm, nI_0.symm, nI_0.symm, ⟨by decide, fun b hb => absurd hb (Nat.not_lt_zero b), fun b hb => absurd hb (Nat.not_lt_zero b), nI_0.symm, fun b hb => absurd hb (Nat.not_lt_zero b)⟩, ⟨by decide, fun b hb => absurd hb (Nat.not_lt_zero b)⟩, rsG_1⟩
theorem tx_0 : txR 0 0 (fun _ => 0) (fun _ => 0) := ⟨0, by decide, nI_0.symm, nI_0.symm, fun b hb => absurd hb (Nat.not_lt_zero b)⟩
theorem lw_find {args : Array Value} {s : State} {i : Nat} {t : String} (h : (Cond.stringRef RX4 i t).before args s = true) : ∃ a, vk_R RX4 i t a s := by
  cases hk : s.vm.findClass RX4 with
  | none => simp [Cond.before, Cond.holds, Cond.value, hk] at h
  | some k =>
    obtain ⟨-, -, -, a, -, -, -, -, -, hev⟩ := Cond.stringRef_spec hk h
    exact ⟨a, vk_R.of h hev⟩
/-- what a throw reads, at the law's entry -/
theorem lw_xT {s : State} {b : Nat} {A : Nat → Prop} (hA : ∀ a : Nat, a < s.heap.size → ¬ A a) (hts : ∀ w ∈ lw_tbl, w.before #[Value.ref b] s = true) (hgv : (Jvm.Cond.and given_1 narrow_1).before #[Value.ref b] s = true) : xT A s := by
  have hs := flat_of_before _ hgv
  refine ⟨vx_Zqof (hts _ (by decide +kernel)) (hts _ (by decide +kernel)) (hs _ (by decide +kernel)) hA, vx_Zqof (hts _ (by decide +kernel)) (hts _ (by decide +kernel)) (hs _ (by decide +kernel)) hA, ?_, ?_, ?_, ?_⟩
  · have h : ∀ E ∈ excs, Cond.castable E E ∈ lw_tbl := by decide +kernel
    exact fun E hE => va_Nw.of rfl (hts _ (h E hE))
  · have h : ∀ q ∈ strTab, Cond.stringRef RX4 q.1 q.2 ∈ lw_tbl := by decide +kernel
    exact fun q hq => lw_find (hts _ (h q hq))
  · intro E hE F hF hne
    refine va_Nc.of (hs _ ?_)
    simp only [excs, List.mem_cons, List.not_mem_nil, or_false] at hE hF
    rcases hE with rfl | rfl | rfl <;> rcases hF with rfl | rfl | rfl <;> first | exact absurd rfl hne | decide +kernel
  · have h : ∀ n ∈ dcl, Cond.declares (Bundle.initS n) ∈ lw_tbl := by decide +kernel
    exact fun n hn => va_Nw.of rfl (hts _ (h n hn))
theorem lw_known {s : State} {b : Nat} (hts : ∀ w ∈ lw_tbl, w.before #[Value.ref b] s = true) : ∃ D : va_G, ∀ (c : Nat) (q : vw_C), vwCl[c]? = some q → u_Kn s q.1 q.2.1 q.2.2 (D.1 c) (D.2 c) := by
  obtain ⟨d0, i0, k0⟩ := u_known (C := RX0) (T := TX0) (N := 2) (n := 2) hts inX0 (hts (.instantiable RX0 2) (by decide +kernel))
  obtain ⟨d1, i1, k1⟩ := u_known (C := RX1) (T := TX1) (N := 10) (n := 10) hts inX1 (hts (.instantiable RX1 10) (by decide +kernel))
  obtain ⟨d2, i2, k2⟩ := u_known (C := RX2) (T := TX2) (N := 5) (n := 5) hts inX2 (hts (.instantiable RX2 5) (by decide +kernel))
  obtain ⟨d3, i3, k3⟩ := u_known (C := RX3) (T := TX3) (N := 8) (n := 8) hts inX3 (hts (.instantiable RX3 8) (by decide +kernel))
  obtain ⟨d4, i4, k4⟩ := u_known (C := RX4) (T := TX4) (N := 9) (n := 9) hts inX4 (hts (.instantiable RX4 9) (by decide +kernel))
  obtain ⟨d5, i5, k5⟩ := u_known (C := RX5) (T := TX5) (N := 15) (n := 15) hts inX5 (hts (.instantiable RX5 15) (by decide +kernel))
  refine ⟨(fun k => if k = 0 then d0 else if k = 1 then d1 else if k = 2 then d2 else if k = 3 then d3 else if k = 4 then d4 else d5, fun k => if k = 0 then i0 else if k = 1 then i1 else if k = 2 then i2 else if k = 3 then i3 else if k = 4 then i4 else i5), ?_⟩
  intro k q hq
  match k, hq with
  | 0, hq => cases hq; exact k0
  | 1, hq => cases hq; exact k1
  | 2, hq => cases hq; exact k2
  | 3, hq => cases hq; exact k3
  | 4, hq => cases hq; exact k4
  | 5, hq => cases hq; exact k5
  | k + 6, hq => simp [vwCl] at hq
theorem lw_LC {p : Program} {s : State} {m : MethodId} {meth : Method} {c : Code} {l : Launch} (hflags : l.flags = flags0) {b L : Nat} {xs : Nat → Int32} (hL : L ≤ 2560) (C0 : lw_At p s m meth c b L xs) : ∃ (D : va_G) (cI cS cL : ClassId), LC p l s m #[Value.ref b] c D (fun q => s.heap.size ≤ q) cI cS cL b L xs ∧ va_AO RX2 s := by
  obtain ⟨hx, hb, hr, hml, hown, hts, hX, hbl, hlocks, hgv⟩ := C0
  obtain ⟨D, hKc⟩ := lw_known hts
  obtain ⟨cI, cS, cL, hT⟩ := law_types (hts _ (by decide +kernel)) (hts (Cond.arrayOver (.object "ColophonHunt$Shelf")) (by decide +kernel)) (hts _ (by decide +kernel))
  have hN : xN s := ⟨va_Nw.of rfl (hts _ (by decide +kernel)), va_Nw.of rfl (hts _ (by decide +kernel))⟩
  have hlt : l.stackTraces = false := by
    unfold Launch.stackTraces
    rw [hflags]
    decide +kernel
  exact ⟨D, cI, cS, cL, ⟨⟨hx, hb, hml, hown, fun w h => hts w (wsL_law_in w h), ⟨hKc, hT⟩, fun _ h => h, hN⟩, lw_xT (fun a ha => Nat.not_le.mpr ha) hts hgv, hlt, hX, hbl, Nat.not_le.mpr hbl, hL⟩, va_AO.of (hts (Cond.arrayOver (.object "ColophonHunt$Shelf")) (by decide +kernel))⟩
theorem lw_endx {p : Program} {e : Env} {s : State} {m : MethodId} {below : List Frame} {meth : Method} {c : Code} {l : Launch} {D : va_G} {cI cS cL : ClassId} {q : Nat → Nat} {b L : Nat} {xs : Nat → Int32} (C0 : lw_At p s m meth c b L xs) (C : LC p l s m #[Value.ref b] c D (fun q => s.heap.size ≤ q) cI cS cL b L xs) :
    ∀ k, k ≤ 513 → LNx p l e s m #[Value.ref b] below meth c (lw_Z below #[Value.ref b] s) D (fun q => s.heap.size ≤ q) cI cS cL q b k (76 + k) (4260 + 6 * k) 1340 := by
  obtain ⟨hx, hb, hr, hml, hown, hts, hX, hbl, hlocks, hgv⟩ := C0
  intro k hk ad len old sN P L M Y zN s1 s2 s3 s4 hs hN hP hL hM hY cn any rs bef beh fy ly aB aH tab c2 any2 rs2 b1 b2 b3 b4 b5 b6 tb2 rPa rSt rPr rLe rMo rYe rSc fN fP fL fM fY codes kept typed th at_ flt val tolds now thn past text told bfr ways yrs out h ht
  refine g_iconst C.1 (v := 1) dL_law_1340 rfl ?_
  intro H locs ls hP hD hS hl
  refine va_forget (fun q hq => hS.2.2 q hq) ?_
  refine W.widen (k := 601024) (n := 7293034) (by omega) (by omega) ?_
  exact W.base (lw_ret (Drawn.sameBut.refl s.drawn lw_cs) hx hb hr hlocks dL_law_1341)
theorem mL_cl8 : Cond.classLink RL 8 RX4 ∈ wsL_law := by decide +kernel
theorem mL_is4 : Cond.instantiable RX4 9 ∈ wsL_law := by decide +kernel
theorem mL_in4 : Cond.initialized RX4 ∈ wsL_law := by decide +kernel
theorem mL_cl73 : Cond.classLink RL 73 RX5 ∈ wsL_law := by decide +kernel
theorem mL_is5 : Cond.instantiable RX5 15 ∈ wsL_law := by decide +kernel
theorem mL_in5 : Cond.initialized RX5 ∈ wsL_law := by decide +kernel
theorem mL_al : Cond.arrayClass .long ∈ wsL_law := by decide +kernel
theorem mL_ml72 : Cond.methodLink RL 72 yX4_init ∈ wsL_law := by decide +kernel
theorem mL_im72 : Cond.instanceMethod yX4_init ∈ wsL_law := by decide +kernel
theorem mL_yi72 : Cond.initialized yX4_init.cls ∈ wsL_law := by decide +kernel
theorem mL_ml75 : Cond.methodLink RL 75 yX5_init ∈ wsL_law := by decide +kernel
theorem mL_im75 : Cond.instanceMethod yX5_init ∈ wsL_law := by decide +kernel
theorem mL_yi75 : Cond.initialized yX5_init.cls ∈ wsL_law := by decide +kernel
