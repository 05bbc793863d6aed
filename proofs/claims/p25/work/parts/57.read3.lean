/-! what the class's reading answers -/
theorem i_le_anti {x y : Int32} (h1 : x ≤ y) (h2 : y ≤ x) : x = y := by
  apply Int32.toInt_inj.mp
  rw [Int32.le_iff_toInt_le] at h1 h2
  omega
theorem isFst_uni {Y : Nat → Int32} {U : Nat → Prop} {n : Nat} {v w : Int32} (h : isFst Y U n v) (k : isFst Y U n w) : v = w := by
  refine i_le_anti ?_ ?_
  · rcases h.2.2 with z | ⟨o, ho, hu, hy, z⟩
    · rw [z]; exact k.1
    · rw [z]; exact k.2.1 o ho hu hy
  · rcases k.2.2 with z | ⟨o, ho, hu, hy, z⟩
    · rw [z]; exact h.1
    · rw [z]; exact h.2.1 o ho hu hy
theorem isLst_uni {Y : Nat → Int32} {U : Nat → Prop} {n : Nat} {v w : Int32} (h : isLst Y U n v) (k : isLst Y U n w) : v = w := by
  refine i_le_anti ?_ ?_
  · rcases k.2.2 with z | ⟨o, ho, hu, hy, z⟩
    · rw [z]; exact h.1
    · rw [z]; exact h.2.1 o ho hu hy
  · rcases h.2.2 with z | ⟨o, ho, hu, hy, z⟩
    · rw [z]; exact k.1
    · rw [z]; exact k.2.1 o ho hu hy
/-! how many bits -/
theorem bc_k : ∀ a, a < 64 → ∀ b, b < 64 → f_J6_bitCount_0f7a4 (nI (64 * a + b)) = some (nI (cd 12 (64 * a + b))) := by decide +kernel
theorem bc_12 {k : Nat} (h : k < 4096) : f_J6_bitCount_0f7a4 (nI k) = some (nI (cd 12 k)) := by
  have := bc_k (k / 64) (by omega) (k % 64) (by omega)
  rw [show 64 * (k / 64) + k % 64 = k by omega] at this
  exact this
theorem cd_ext {S n : Nat} (hS : S < 2 ^ n) : ∀ m, n ≤ m → cd m S = cd n S
  | 0, h => by
    have : n = 0 := by omega
    subst this; rfl
  | m + 1, h => by
    by_cases e : n = m + 1
    · subst e; rfl
    · show cd m S + (if S.testBit m = true then 1 else 0) = cd n S
      rw [bit_out hS (by omega), cd_ext hS m (by omega)]
      simp
theorem bc_e {n S : Nat} (hn : n ≤ 10) (hS : S < 2 ^ n) : f_J6_bitCount_0f7a4 (nI S) = some (nI (cd n S)) := by
  rw [bc_12 (by have := m10' hn hS; omega), cd_ext hS 12 (by omega)]
theorem cd_msk (p : Nat → Bool) (n : Nat) : cd n (msk p n) = sm (fun a => if p a = true then 1 else 0) n := sm_congr (fun i hi => by
  rw [msk_bit]; simp [hi])
theorem sm_tri (h : Nat → Nat → Nat) (h0 : ∀ a, h a a = 0) : ∀ n, sm (fun b => sm (fun a => h a b) n) n = sm (fun b => sm (fun a => h a b + h b a) b) n
  | 0 => rfl
  | n + 1 => by
    show sm (fun b => sm (fun a => h a b) n + h n b) n + (sm (fun a => h a n) n + h n n) = sm (fun b => sm (fun a => h a b + h b a) b) n + sm (fun a => h a n + h n a) n
    rw [sm_add, sm_tri h h0 n, sm_add (fun a => h a n) (h n), h0 n]
    omega
def conP (E : Nat → Nat → Bool) (n : Nat) : Nat := sm (fun b => sm (fun a => if (E a b && E b a) = true then 1 else 0) b) n
def ordP (E : Nat → Nat → Bool) (n : Nat) : Nat := sm (fun b => sm (fun a => if (E a b ^^ E b a) = true then 1 else 0) b) n
theorem sm_bd {f : Nat → Nat} {c : Nat} : ∀ {n : Nat}, (∀ i, i < n → f i ≤ c) → sm f n ≤ n * c
  | 0, _ => by rw [Nat.zero_mul]; exact Nat.le_refl 0
  | n + 1, h => by
    show sm f n + f n ≤ (n + 1) * c
    have h1 := sm_bd (n := n) (f := f) (c := c) (fun i hi => h i (by omega))
    have h2 := h n (by omega)
    rw [Nat.add_mul, Nat.one_mul]
    omega
theorem bf_and {E : Nat → Nat → Bool} {n b : Nat} : bfM E n b &&& bfM (tr E) n b = msk (fun a => E a b && E b a) n := by
  refine bit_ext (Nat.and_lt_two_pow _ (bfM_lt _ _ _)) (msk_lt _ _) (fun i hi => ?_)
  rw [Nat.testBit_and, bfM_bit, bfM_bit, msk_bit]
  simp [hi, tr]
theorem bf_andn {E : Nat → Nat → Bool} {n b : Nat} (hn : n ≤ 10) : bfM E n b &&& (bfM (tr E) n b ^^^ 4294967295) = msk (fun a => E a b && !(E b a)) n := by
  refine bit_ext (Nat.lt_of_le_of_lt Nat.and_le_left (bfM_lt _ _ _)) (msk_lt _ _) (fun i hi => ?_)
  rw [Nat.testBit_and, Nat.testBit_xor, m32_bit (by omega), bfM_bit, bfM_bit, msk_bit]
  simp [hi, tr]
theorem conPairs_e {n : Nat} {E : Nat → Nat → Bool} {bef beh : Nat → Int32} (hE : ∀ a, E a a = false) (hn : n ≤ 10) (h : ∀ b, b < n → bef b = nI (bfM E n b) ∧ beh b = nI (bfM (tr E) n b)) : f_X1_contradictingPairs (nI n) bef beh = some (nI (conP E n)) := by
  have key : Ok (f_X1_contradictingPairs (nI n) bef beh) (fun r => r = nI (conP E n)) := by
    unfold f_X1_contradictingPairs
    refine ok_wl (fun i s => s.2 = nI i ∧ s.1 = nI (sm (fun b => sm (fun a => if (E a b && E b a) = true then 1 else 0) n) i)) (fun r => r = nI (sm (fun b => sm (fun a => if (E a b && E b a) = true then 1 else 0) n) n)) n (by omega) ⟨rfl, rfl⟩ ?_ ?_ ?_
    · rintro i ⟨s, l⟩ hi ⟨hl, hs⟩
      dsimp only at hl hs
      subst hl hs
      refine ok_nle hi (by omega) (ok_rd i rfl (by omega) (by decide) (ok_rd i rfl (by omega) (by decide) ?_))
      rw [(h i hi).1, (h i hi).2, iN_and, bf_and]
      refine ok_be (bc_e hn (msk_lt _ _)) (ok_s ⟨nI_1 i, ?_⟩)
      dsimp only
      rw [cd_msk, nI_add]
      rfl
    · rintro ⟨s, l⟩ ⟨hl, hs⟩
      dsimp only at hl hs
      subst hl hs
      exact ok_yle (Nat.le_refl _) (by omega) (ok_s rfl)
    · rintro r rfl
      refine ok_gZ (by decide) (ok_s ?_)
      have e1 := sm_tri (fun a b => if (E a b && E b a) = true then 1 else 0) (fun a => by rw [hE]; rfl) n
      have e2 : sm (fun b => sm (fun a => (if (E a b && E b a) = true then 1 else 0) + (if (E b a && E a b) = true then 1 else 0)) b) n = sm (fun b => sm (fun a => if (E a b && E b a) = true then 1 else 0) b) n * 2 := by
        rw [← sm_mul]
        refine sm_congr (fun b _ => ?_)
        rw [← sm_mul]
        refine sm_congr (fun a _ => ?_)
        rw [Bool.and_comm (E b a)]
        split <;> rfl
      have e3 : conP E n ≤ n * 10 := sm_bd (fun b hb => by
        have := sm_bd (n := b) (f := fun a => if (E a b && E b a) = true then 1 else 0) (c := 1) (fun a _ => by split <;> omega)
        omega)
      rw [e1, e2]
      show nI (conP E n * 2) / nI 2 = _
      rw [pk_div (by omega) (by decide) (by decide), Nat.mul_div_cancel _ (by decide)]
  obtain ⟨r, h1, h2⟩ := key
  rw [h1, h2]
theorem ordPairs_e {n : Nat} {E : Nat → Nat → Bool} {bef beh : Nat → Int32} (hE : ∀ a, E a a = false) (hn : n ≤ 10) (h : ∀ b, b < n → bef b = nI (bfM E n b) ∧ beh b = nI (bfM (tr E) n b)) : f_X1_orderedPairs (nI n) bef beh = some (nI (ordP E n)) := by
  have key : Ok (f_X1_orderedPairs (nI n) bef beh) (fun r => r = nI (ordP E n)) := by
    unfold f_X1_orderedPairs
    refine ok_wl (fun i s => s.2 = nI i ∧ s.1 = nI (sm (fun b => sm (fun a => if (E a b && !(E b a)) = true then 1 else 0) n) i)) (fun r => r = nI (sm (fun b => sm (fun a => if (E a b && !(E b a)) = true then 1 else 0) n) n)) n (by omega) ⟨rfl, rfl⟩ ?_ ?_ ?_
    · rintro i ⟨s, l⟩ hi ⟨hl, hs⟩
      dsimp only at hl hs
      subst hl hs
      refine ok_nle hi (by omega) (ok_rd i rfl (by omega) (by decide) (ok_rd i rfl (by omega) (by decide) ?_))
      rw [(h i hi).1, (h i hi).2, iN_m1, iN_xor, iN_and, bf_andn hn]
      refine ok_be (bc_e hn (msk_lt _ _)) (ok_s ⟨nI_1 i, ?_⟩)
      dsimp only
      rw [cd_msk, nI_add]
      rfl
    · rintro ⟨s, l⟩ ⟨hl, hs⟩
      dsimp only at hl hs
      subst hl hs
      exact ok_yle (Nat.le_refl _) (by omega) (ok_s rfl)
    · rintro r rfl
      refine ok_s ?_
      have e1 := sm_tri (fun a b => if (E a b && !(E b a)) = true then 1 else 0) (fun a => by rw [hE]; rfl) n
      rw [e1]
      congr 1
      refine sm_congr (fun b _ => sm_congr (fun a _ => ?_))
      cases E a b <;> cases E b a <;> rfl
  obtain ⟨r, h1, h2⟩ := key
  rw [h1, h2]
def dtd (n : Nat) (fy ly : Nat → Int32) : Nat := sm (fun b => if fy b = ly b then 1 else 0) n
theorem isDated_e {b : Nat} {fy ly : Nat → Int32} (hb : b < 10) : f_X1_isDated (nI b) fy ly = some (if fy b = ly b then 1 else 0) := by
  unfold f_X1_isDated
  rw [rdA_nI hb (by decide), rdA_nI hb (by decide)]
  simp only [Option.bind_some, jn, u1, gB]
  by_cases h : fy b = ly b <;> simp [h]
theorem datedBooks_e {n : Nat} {fy ly : Nat → Int32} (hn : n ≤ 10) : f_X1_datedBooks (nI n) fy ly = some (nI (dtd n fy ly)) := by
  have key : Ok (f_X1_datedBooks (nI n) fy ly) (fun r => r = nI (dtd n fy ly)) := by
    unfold f_X1_datedBooks
    refine ok_wl (fun i s => s.2 = nI i ∧ s.1 = nI (dtd i fy ly)) (fun r => r = nI (dtd n fy ly)) n (by omega) ⟨rfl, rfl⟩ ?_ ?_ ?_
    · rintro i ⟨s, l⟩ hi ⟨hl, hs⟩
      dsimp only at hl hs
      subst hl hs
      refine ok_nle hi (by omega) (ok_be (isDated_e (by omega)) ?_)
      dsimp only [u1, jn]
      by_cases q : fy i = ly i
      · rw [if_pos q]
        refine ok_f (by decide) (ok_s ⟨nI_1 i, ?_⟩)
        show _ = nI (dtd i fy ly + (if fy i = ly i then 1 else 0))
        rw [if_pos q]
        exact nI_1 _
      · rw [if_neg q]
        refine ok_t rfl (ok_s ⟨nI_1 i, ?_⟩)
        show _ = nI (dtd i fy ly + (if fy i = ly i then 1 else 0))
        rw [if_neg q]; rfl
    · rintro ⟨s, l⟩ ⟨hl, hs⟩
      dsimp only at hl hs
      subst hl hs
      exact ok_yle (Nat.le_refl _) (by omega) (ok_s rfl)
    · rintro r hr
      exact ok_s hr
  obtain ⟨r, h1, h2⟩ := key
  rw [h1, h2]
/-- how many orders fit, as the class and the reference have it -/
def fitN (E : Nat → Nat → Bool) (n : Nat) : Nat := ct E n (2 ^ n - 1)
theorem fit_any {E : Nat → Nat → Bool} {n : Nat} {A : Nat → Nat} {any : Int32} (hA : isCl E n A) (h : cyc n A ∧ any = 0 ∨ ¬ cyc n A ∧ any = 1) : any = 0 ↔ fitN E n = 0 := by
  have := ct_cyc hA
  unfold fitN
  rcases h with ⟨h1, h2⟩ | ⟨h1, h2⟩
  · exact ⟨fun _ => Nat.eq_zero_of_not_pos (fun z => this.mp z h1), fun _ => h2⟩
  · refine ⟨fun z => ?_, fun z => absurd (this.mpr h1) (by omega)⟩
    rw [h2] at z
    cases z
theorem orders_e {n : Nat} {E : Nat → Nat → Bool} {c any : Int32} {f1 f2 : Nat → Int32} (hn : n ≤ 10) (h : ∀ b, b < n → f1 b = nI (bfM E n b)) (ha : any = 0 ↔ fitN E n = 0) (ht : tabG E n c f2) :
    Ok (f_X1_orders c any (nI n) f1 f2) (fun o => o.1 = nI (fitN E n) ∧ tabG E n o.2.1 o.2.2) := by
  unfold f_X1_orders
  dsimp only [jn, u3]
  by_cases q : any = 0
  · refine ok_t q (ok_s ⟨?_, ht⟩)
    rw [ha.mp q]; rfl
  · refine ok_f q (ok_be (allBooks_e hn) (ok_bd _ (ordersOf_e hn (full_lt n) h ht) ?_))
    rintro ⟨r, o7, o8⟩ hr
    exact ok_s hr
theorem ordersWithFirst_e {n b : Nat} {E : Nat → Nat → Bool} {c any : Int32} {f1 f2 : Nat → Int32} (hn : n ≤ 10) (hb : b < n) (h : ∀ b, b < n → f1 b = nI (bfM E n b)) (ha : any = 0 ↔ fitN E n = 0) (ht : tabG E n c f2) :
    Ok (f_X1_ordersWithFirst (nI b) c any (nI n) f1 f2) (fun o => o.1 = nI (if fitN E n ≠ 0 ∧ bfM E n b = 0 then ct E n ((2 ^ n - 1) ^^^ 2 ^ b) else 0) ∧ tabG E n o.2.1 o.2.2) := by
  unfold f_X1_ordersWithFirst
  dsimp only [jn, u3, u0]
  by_cases q : any = 0
  · refine ok_t q (ok_s ⟨?_, ht⟩)
    rw [if_neg (fun z => z.1 (ha.mp q))]
    rfl
  · refine ok_f q (ok_rd b rfl (by omega) (by decide) ?_)
    rw [h b hb]
    by_cases z : bfM E n b = 0
    · refine ok_t (by rw [z]; rfl) (ok_be (allBooks_e hn) ?_)
      dsimp only [u1]
      rw [iN_rm2 (by omega)]
      have hbit : (2 ^ n - 1).testBit b = true := by rw [full_bit]; simp [hb]
      refine ok_bd _ (ordersOf_e hn (rm_lt2 (full_lt n) hbit) h ht) ?_
      rintro ⟨r, o7, o8⟩ hr
      refine ok_s ⟨?_, hr.2⟩
      rw [if_pos ⟨fun y => q (ha.mpr y), z⟩]
      exact hr.1
    · refine ok_f (fun y => z ((iN_z0 (m10 hn (bfM_lt E n b))).mp y)) (ok_s ⟨?_, ht⟩)
      rw [if_neg (fun y => z y.2)]
      rfl
