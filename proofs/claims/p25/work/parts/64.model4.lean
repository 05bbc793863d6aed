/-! the reference: first order, places, books left out (the family 'Int32 by its bits' is the kit's, for pasting) -/
def bt (x : Int32) (i : Nat) : Bool := x.toBitVec.getLsbD i
theorem b_ext {x y : Int32} (h : ∀ i, i < 32 → bt x i = bt y i) : x = y := Int32.toBitVec_inj.mp (BitVec.eq_of_getLsbD_eq (fun i hi => h i hi))
theorem b_and (x y : Int32) (i : Nat) : bt (x &&& y) i = (bt x i && bt y i) := by unfold bt; rw [Int32.toBitVec_and, BitVec.getLsbD_and]
theorem b_0 (i : Nat) : bt 0 i = false := BitVec.getLsbD_zero
theorem b_sshr (n : Nat) (hn : n < 32) (x : Int32) {i : Nat} (hi : i < 32) : bt (x >>> (nI n &&& 31)) i = if n + i < 32 then bt x (n + i) else bt x 31 := by
  unfold bt
  rw [Int32.toBitVec_shiftRight]
  show (x.toBitVec.sshiftRight ((nI n &&& 31).toBitVec.smod 32).toNat).getLsbD i = _
  rw [iN_sm n hn, BitVec.getLsbD_sshiftRight, BitVec.msb_eq_getLsbD_last]
  simp [hi]
theorem b_1 : ∀ i, i < 32 → bt 1 i = decide (i = 0) := by decide +kernel
theorem bt_nI (S : Nat) {k : Nat} (hk : k < 32) : bt (nI S) k = S.testBit k := by
  unfold bt
  show (BitVec.ofNat 32 S).getLsbD k = _
  rw [BitVec.getLsbD_ofNat]
  simp [hk]
theorem iN_g {S k : Nat} (hk : k < 32) : ((nI S >>> (nI k &&& 31)) &&& 1) = 0 ↔ S.testBit k = false := by
  constructor
  · intro h
    have h1 := congrArg (fun x => bt x 0) h
    rw [b_and, b_sshr k hk _ (by decide), if_pos (by omega), b_1 0 (by decide), b_0] at h1
    rw [Nat.add_zero, bt_nI S hk] at h1
    simpa using h1
  · intro h
    apply b_ext
    intro i hi
    rw [b_and, b_0, b_1 i hi]
    by_cases e : i = 0
    · subst e
      rw [b_sshr k hk _ (by decide), if_pos (by omega), Nat.add_zero, bt_nI S hk, h]
      rfl
    · simp [e]
theorem i_m1 (x : Int32) : x + (-1) = x - 1 := by rw [Int32.sub_eq_add_neg]
theorem dn_s {n i : Nat} (h : i < n) : nI (n - i) - 1 = nI (n - 1 - i) ∧ nI (n - 1 - i) + (-1) = nI (n - (i + 1)) - 1 := by
  refine ⟨?_, ?_⟩
  · rw [iN_1, pk_sub (by omega)]
    congr 1
    omega
  · rw [i_m1, show n - (i + 1) = n - 1 - i by omega]
theorem dn_e : nI 0 - 1 < 0 := by decide
theorem lwS {E : Nat → Nat → Bool} {n S : Nat} (hn : n ≤ 10) : nI S ||| ((1 : Int32) <<< (lw E n S &&& 31)) = nI (S ||| 2 ^ lwi (lw E n S)) := by
  rcases lw_low E n S with ⟨z, -⟩ | ⟨b, -, hb, e, -, -⟩
  · rw [z, show (1 : Int32) <<< ((-1 : Int32) &&& 31) = nI (2 ^ 31) by decide +kernel, iN_or]
    rfl
  · rw [e, lwi_nI (by omega), iN_shl b (by omega), iN_or]
theorem cd_clo (E : Nat → Nat → Bool) {n b : Nat} (hb : b < n) : sm (fun k => if (clo E n k).testBit b = true then 1 else 0) n = cd n (clo (tr E) n b) := sm_congr (fun k hk => by
  rw [cl_tr (clo_cl E n) (clo_cl (tr E) n) b k hb hk])
